set_option maxRecDepth 100000 in
theorem e_142_0 : g_Pg 142 0 = ga_new 6 8 3 := (congrFun pg_142 0).trans rfl
theorem q_142_0 {L : List Value} {S : List Value} {Z : gZ} {I : gI} {J : gJ} (h : Z.1 < 1000) : g_at 142 0 L S Z I J = g_at 142 3 L (.ref Z.1 :: S) (Z.1 + 1, Z.2.1 + 8, va_up Z.2.2.1 Z.1 (6, 0), va_up Z.2.2.2 Z.1 (fun _ => none)) (va_up I Z.1 (fun _ => 0)) (va_up J Z.1 (fun _ => 0)) := gq_new e_142_0 h
set_option maxRecDepth 100000 in
theorem e_142_3 : g_Pg 142 3 = ga_dup 4 := (congrFun pg_142 3).trans rfl
theorem q_142_3 {L : List Value} {x : Nat} {S : List Value} {Z : gZ} {I : gI} {J : gJ} : g_at 142 3 L (.ref x :: S) Z I J = g_at 142 4 L (.ref x :: .ref x :: S) Z I J := gq_dup e_142_3
set_option maxRecDepth 100000 in
theorem e_142_4 : g_Pg 142 4 = ga_callI 52 0 7 := (congrFun pg_142 4).trans rfl
theorem q_142_4 {L : List Value} {a0 : Nat} {r1 : Nat} {Z : gZ} {I : gI} {J : gJ} : g_at 142 4 L [.ref a0, .ref r1] Z I J = (g_at 52 0 [.ref a0, .null] [] Z I J).bind (fun r => g_at 142 7 L (r.1.toList ++ [.ref r1]) r.2.1 r.2.2.1 r.2.2.2) := gq_callI e_142_4 rfl rfl rfl rfl rfl rfl
set_option maxRecDepth 100000 in
theorem e_142_7 : g_Pg 142 7 = ga_astore 1 8 := (congrFun pg_142 7).trans rfl
theorem q_142_7 {l0 l1 l2 l3 : Value} {x : Nat} {S : List Value} {Z : gZ} {I : gI} {J : gJ} (h : gN1 l0 = true) : g_at 142 7 [l0, l1, l2, l3] (.ref x :: S) Z I J = g_at 142 8 [l0, .ref x, l2, l3] S Z I J := gq_astore e_142_7 h rfl rfl
set_option maxRecDepth 100000 in
theorem e_142_8 : g_Pg 142 8 = ga_new 7 30 11 := (congrFun pg_142 8).trans rfl
theorem q_142_8 {L : List Value} {S : List Value} {Z : gZ} {I : gI} {J : gJ} (h : Z.1 < 1000) : g_at 142 8 L S Z I J = g_at 142 11 L (.ref Z.1 :: S) (Z.1 + 1, Z.2.1 + 30, va_up Z.2.2.1 Z.1 (7, 0), va_up Z.2.2.2 Z.1 (fun _ => none)) (va_up I Z.1 (fun _ => 0)) (va_up J Z.1 (fun _ => 0)) := gq_new e_142_8 h
set_option maxRecDepth 100000 in
theorem e_142_11 : g_Pg 142 11 = ga_dup 12 := (congrFun pg_142 11).trans rfl
theorem q_142_11 {L : List Value} {x : Nat} {S : List Value} {Z : gZ} {I : gI} {J : gJ} : g_at 142 11 L (.ref x :: S) Z I J = g_at 142 12 L (.ref x :: .ref x :: S) Z I J := gq_dup e_142_11
set_option maxRecDepth 100000 in
theorem e_142_12 : g_Pg 142 12 = ga_callI 82 0 15 := (congrFun pg_142 12).trans rfl
theorem q_142_12 {L : List Value} {a0 : Nat} {r1 : Nat} {Z : gZ} {I : gI} {J : gJ} : g_at 142 12 L [.ref a0, .ref r1] Z I J = (g_at 82 0 [.ref a0] [] Z I J).bind (fun r => g_at 142 15 L (r.1.toList ++ [.ref r1]) r.2.1 r.2.2.1 r.2.2.2) := gq_callI e_142_12 rfl rfl rfl rfl rfl rfl
set_option maxRecDepth 100000 in
theorem e_142_15 : g_Pg 142 15 = ga_astore 2 16 := (congrFun pg_142 15).trans rfl
theorem q_142_15 {l0 l1 l2 l3 : Value} {x : Nat} {S : List Value} {Z : gZ} {I : gI} {J : gJ} (h : gN1 l1 = true) : g_at 142 15 [l0, l1, l2, l3] (.ref x :: S) Z I J = g_at 142 16 [l0, l1, .ref x, l3] S Z I J := gq_astore e_142_15 h rfl rfl
set_option maxRecDepth 100000 in
theorem e_142_16 : g_Pg 142 16 = ga_push (.int 0) 17 := (congrFun pg_142 16).trans rfl
theorem q_142_16 {L : List Value} {S : List Value} {Z : gZ} {I : gI} {J : gJ} : g_at 142 16 L S Z I J = g_at 142 17 L (.int 0 :: S) Z I J := gq_push e_142_16
set_option maxRecDepth 100000 in
theorem e_142_17 : g_Pg 142 17 = ga_istore 3 18 := (congrFun pg_142 17).trans rfl
theorem q_142_17 {l0 l1 l2 l3 : Value} {x : Int32} {S : List Value} {Z : gZ} {I : gI} {J : gJ} (h : gN1 l2 = true) : g_at 142 17 [l0, l1, l2, l3] (.int x :: S) Z I J = g_at 142 18 [l0, l1, l2, .int x] S Z I J := gq_istore e_142_17 h rfl rfl
set_option maxRecDepth 100000 in
theorem e_142_18 : g_Pg 142 18 = ga_iload 3 19 := (congrFun pg_142 18).trans rfl
theorem q_142_18 {l0 l1 l2 : Value} {x : Int32} {S : List Value} {Z : gZ} {I : gI} {J : gJ} : g_at 142 18 [l0, l1, l2, .int x] S Z I J = g_at 142 19 [l0, l1, l2, .int x] (.int x :: S) Z I J := gq_iload e_142_18 rfl
set_option maxRecDepth 100000 in
theorem e_142_19 : g_Pg 142 19 = ga_aload 0 20 := (congrFun pg_142 19).trans rfl
theorem q_142_19 {l1 l2 l3 : Value} {x : Nat} {S : List Value} {Z : gZ} {I : gI} {J : gJ} : g_at 142 19 [.ref x, l1, l2, l3] S Z I J = g_at 142 20 [.ref x, l1, l2, l3] (.ref x :: S) Z I J := gq_aload e_142_19 rfl
set_option maxRecDepth 100000 in
theorem e_142_20 : g_Pg 142 20 = ga_alen 21 := (congrFun pg_142 20).trans rfl
theorem q_142_20 {L : List Value} {a : Nat} {S : List Value} {Z : gZ} {I : gI} {J : gJ} (h : gTgA (gKd Z a).1 a = true) : g_at 142 20 L (.ref a :: S) Z I J = g_at 142 21 L (.int (Int32.ofNat (gKd Z a).2) :: S) Z I J := gq_alen e_142_20 h
set_option maxRecDepth 100000 in
theorem e_142_21 : g_Pg 142 21 = ga_push (.int 5) 22 := (congrFun pg_142 21).trans rfl
theorem q_142_21 {L : List Value} {S : List Value} {Z : gZ} {I : gI} {J : gJ} : g_at 142 21 L S Z I J = g_at 142 22 L (.int 5 :: S) Z I J := gq_push e_142_21
set_option maxRecDepth 100000 in
theorem e_142_22 : g_Pg 142 22 = ga_bin (fun x y => x - y) 23 := (congrFun pg_142 22).trans rfl
theorem q_142_22 {L : List Value} {x y : Int32} {S : List Value} {Z : gZ} {I : gI} {J : gJ} : g_at 142 22 L (.int y :: .int x :: S) Z I J = g_at 142 23 L (.int (x - y) :: S) Z I J := gq_bin e_142_22
set_option maxRecDepth 100000 in
theorem e_142_23 : g_Pg 142 23 = ga_cmp (fun x y => decide (y < x)) 899 26 := (congrFun pg_142 23).trans rfl
theorem q_142_23 {L : List Value} {x y : Int32} {S : List Value} {Z : gZ} {I : gI} {J : gJ} : g_at 142 23 L (.int y :: .int x :: S) Z I J = if y < x then g_at 142 899 L S Z I J else g_at 142 26 L S Z I J := gq_cmp e_142_23 rfl
set_option maxRecDepth 100000 in
theorem e_142_26 : g_Pg 142 26 = ga_aload 0 27 := (congrFun pg_142 26).trans rfl
theorem q_142_26 {l1 l2 l3 : Value} {x : Nat} {S : List Value} {Z : gZ} {I : gI} {J : gJ} : g_at 142 26 [.ref x, l1, l2, l3] S Z I J = g_at 142 27 [.ref x, l1, l2, l3] (.ref x :: S) Z I J := gq_aload e_142_26 rfl
set_option maxRecDepth 100000 in
theorem e_142_27 : g_Pg 142 27 = ga_iload 3 28 := (congrFun pg_142 27).trans rfl
theorem q_142_27 {l0 l1 l2 : Value} {x : Int32} {S : List Value} {Z : gZ} {I : gI} {J : gJ} : g_at 142 27 [l0, l1, l2, .int x] S Z I J = g_at 142 28 [l0, l1, l2, .int x] (.int x :: S) Z I J := gq_iload e_142_27 rfl
set_option maxRecDepth 100000 in
theorem e_142_28 : g_Pg 142 28 = ga_iald 29 := (congrFun pg_142 28).trans rfl
theorem q_142_28 {L : List Value} {a : Nat} {i : Int32} {S : List Value} {Z : gZ} {I : gI} {J : gJ} (h : gTg8 (gKd Z a).1 a = true) (h0 : 0 ≤ i) (h1 : i.toNatClampNeg < (gKd Z a).2) : g_at 142 28 L (.int i :: .ref a :: S) Z I J = g_at 142 29 L (.int (I a i.toNatClampNeg) :: S) Z I J := gq_iald e_142_28 h h0 h1
set_option maxRecDepth 100000 in
theorem e_142_29 : g_Pg 142 29 = ga_push (.int 31) 31 := (congrFun pg_142 29).trans rfl
theorem q_142_29 {L : List Value} {S : List Value} {Z : gZ} {I : gI} {J : gJ} : g_at 142 29 L S Z I J = g_at 142 31 L (.int 31 :: S) Z I J := gq_push e_142_29
set_option maxRecDepth 100000 in
theorem e_142_31 : g_Pg 142 31 = ga_bin (fun x y => x &&& y) 32 := (congrFun pg_142 31).trans rfl
theorem q_142_31 {L : List Value} {x y : Int32} {S : List Value} {Z : gZ} {I : gI} {J : gJ} : g_at 142 31 L (.int y :: .int x :: S) Z I J = g_at 142 32 L (.int (x &&& y) :: S) Z I J := gq_bin e_142_31
set_option maxRecDepth 100000 in
theorem e_142_32 : g_Pg 142 32 = ga_switch 0 [148, 211, 224, 237, 250, 283, 316, 349, 372, 395, 418, 441, 464, 497, 520, 543, 566, 609, 652, 705, 738, 791, 824, 837, 870] 893 := (congrFun pg_142 32).trans rfl
theorem q_142_32 {L : List Value} {x : Int32} {S : List Value} {Z : gZ} {I : gI} {J : gJ} : g_at 142 32 L (.int x :: S) Z I J = if x = 0 then g_at 142 148 L S Z I J else if x = 1 then g_at 142 211 L S Z I J else if x = 2 then g_at 142 224 L S Z I J else if x = 3 then g_at 142 237 L S Z I J else if x = 4 then g_at 142 250 L S Z I J else if x = 5 then g_at 142 283 L S Z I J else if x = 6 then g_at 142 316 L S Z I J else if x = 7 then g_at 142 349 L S Z I J else if x = 8 then g_at 142 372 L S Z I J else if x = 9 then g_at 142 395 L S Z I J else if x = 10 then g_at 142 418 L S Z I J else if x = 11 then g_at 142 441 L S Z I J else if x = 12 then g_at 142 464 L S Z I J else if x = 13 then g_at 142 497 L S Z I J else if x = 14 then g_at 142 520 L S Z I J else if x = 15 then g_at 142 543 L S Z I J else if x = 16 then g_at 142 566 L S Z I J else if x = 17 then g_at 142 609 L S Z I J else if x = 18 then g_at 142 652 L S Z I J else if x = 19 then g_at 142 705 L S Z I J else if x = 20 then g_at 142 738 L S Z I J else if x = 21 then g_at 142 791 L S Z I J else if x = 22 then g_at 142 824 L S Z I J else if x = 23 then g_at 142 837 L S Z I J else if x = 24 then g_at 142 870 L S Z I J else g_at 142 893 L S Z I J := (gq_switch e_142_32).trans (gsw_cons (F := fun q => g_at 142 q L S Z I J) (lo := 0) (lo' := 1) (v := 0) rfl rfl (gsw_cons (F := fun q => g_at 142 q L S Z I J) (lo := 1) (lo' := 2) (v := 1) rfl rfl (gsw_cons (F := fun q => g_at 142 q L S Z I J) (lo := 2) (lo' := 3) (v := 2) rfl rfl (gsw_cons (F := fun q => g_at 142 q L S Z I J) (lo := 3) (lo' := 4) (v := 3) rfl rfl (gsw_cons (F := fun q => g_at 142 q L S Z I J) (lo := 4) (lo' := 5) (v := 4) rfl rfl (gsw_cons (F := fun q => g_at 142 q L S Z I J) (lo := 5) (lo' := 6) (v := 5) rfl rfl (gsw_cons (F := fun q => g_at 142 q L S Z I J) (lo := 6) (lo' := 7) (v := 6) rfl rfl (gsw_cons (F := fun q => g_at 142 q L S Z I J) (lo := 7) (lo' := 8) (v := 7) rfl rfl (gsw_cons (F := fun q => g_at 142 q L S Z I J) (lo := 8) (lo' := 9) (v := 8) rfl rfl (gsw_cons (F := fun q => g_at 142 q L S Z I J) (lo := 9) (lo' := 10) (v := 9) rfl rfl (gsw_cons (F := fun q => g_at 142 q L S Z I J) (lo := 10) (lo' := 11) (v := 10) rfl rfl (gsw_cons (F := fun q => g_at 142 q L S Z I J) (lo := 11) (lo' := 12) (v := 11) rfl rfl (gsw_cons (F := fun q => g_at 142 q L S Z I J) (lo := 12) (lo' := 13) (v := 12) rfl rfl (gsw_cons (F := fun q => g_at 142 q L S Z I J) (lo := 13) (lo' := 14) (v := 13) rfl rfl (gsw_cons (F := fun q => g_at 142 q L S Z I J) (lo := 14) (lo' := 15) (v := 14) rfl rfl (gsw_cons (F := fun q => g_at 142 q L S Z I J) (lo := 15) (lo' := 16) (v := 15) rfl rfl (gsw_cons (F := fun q => g_at 142 q L S Z I J) (lo := 16) (lo' := 17) (v := 16) rfl rfl (gsw_cons (F := fun q => g_at 142 q L S Z I J) (lo := 17) (lo' := 18) (v := 17) rfl rfl (gsw_cons (F := fun q => g_at 142 q L S Z I J) (lo := 18) (lo' := 19) (v := 18) rfl rfl (gsw_cons (F := fun q => g_at 142 q L S Z I J) (lo := 19) (lo' := 20) (v := 19) rfl rfl (gsw_cons (F := fun q => g_at 142 q L S Z I J) (lo := 20) (lo' := 21) (v := 20) rfl rfl (gsw_cons (F := fun q => g_at 142 q L S Z I J) (lo := 21) (lo' := 22) (v := 21) rfl rfl (gsw_cons (F := fun q => g_at 142 q L S Z I J) (lo := 22) (lo' := 23) (v := 22) rfl rfl (gsw_cons (F := fun q => g_at 142 q L S Z I J) (lo := 23) (lo' := 24) (v := 23) rfl rfl (gsw_cons (F := fun q => g_at 142 q L S Z I J) (lo := 24) (lo' := 25) (v := 24) rfl rfl rfl)))))))))))))))))))))))))
set_option maxRecDepth 100000 in
theorem e_142_148 : g_Pg 142 148 = ga_aload 1 149 := (congrFun pg_142 148).trans rfl
theorem q_142_148 {l0 l2 l3 : Value} {x : Nat} {S : List Value} {Z : gZ} {I : gI} {J : gJ} : g_at 142 148 [l0, .ref x, l2, l3] S Z I J = g_at 142 149 [l0, .ref x, l2, l3] (.ref x :: S) Z I J := gq_aload e_142_148 rfl
set_option maxRecDepth 100000 in
theorem e_142_149 : g_Pg 142 149 = ga_aload 0 150 := (congrFun pg_142 149).trans rfl
theorem q_142_149 {l1 l2 l3 : Value} {x : Nat} {S : List Value} {Z : gZ} {I : gI} {J : gJ} : g_at 142 149 [.ref x, l1, l2, l3] S Z I J = g_at 142 150 [.ref x, l1, l2, l3] (.ref x :: S) Z I J := gq_aload e_142_149 rfl
set_option maxRecDepth 100000 in
theorem e_142_150 : g_Pg 142 150 = ga_iload 3 151 := (congrFun pg_142 150).trans rfl
theorem q_142_150 {l0 l1 l2 : Value} {x : Int32} {S : List Value} {Z : gZ} {I : gI} {J : gJ} : g_at 142 150 [l0, l1, l2, .int x] S Z I J = g_at 142 151 [l0, l1, l2, .int x] (.int x :: S) Z I J := gq_iload e_142_150 rfl
set_option maxRecDepth 100000 in
theorem e_142_151 : g_Pg 142 151 = ga_push (.int 1) 152 := (congrFun pg_142 151).trans rfl
theorem q_142_151 {L : List Value} {S : List Value} {Z : gZ} {I : gI} {J : gJ} : g_at 142 151 L S Z I J = g_at 142 152 L (.int 1 :: S) Z I J := gq_push e_142_151
set_option maxRecDepth 100000 in
theorem e_142_152 : g_Pg 142 152 = ga_bin (fun x y => x + y) 153 := (congrFun pg_142 152).trans rfl
theorem q_142_152 {L : List Value} {x y : Int32} {S : List Value} {Z : gZ} {I : gI} {J : gJ} : g_at 142 152 L (.int y :: .int x :: S) Z I J = g_at 142 153 L (.int (x + y) :: S) Z I J := gq_bin e_142_152
set_option maxRecDepth 100000 in
theorem e_142_153 : g_Pg 142 153 = ga_iald 154 := (congrFun pg_142 153).trans rfl
theorem q_142_153 {L : List Value} {a : Nat} {i : Int32} {S : List Value} {Z : gZ} {I : gI} {J : gJ} (h : gTg8 (gKd Z a).1 a = true) (h0 : 0 ≤ i) (h1 : i.toNatClampNeg < (gKd Z a).2) : g_at 142 153 L (.int i :: .ref a :: S) Z I J = g_at 142 154 L (.int (I a i.toNatClampNeg) :: S) Z I J := gq_iald e_142_153 h h0 h1
set_option maxRecDepth 100000 in
theorem e_142_154 : g_Pg 142 154 = ga_i2l 155 := (congrFun pg_142 154).trans rfl
theorem q_142_154 {L : List Value} {x : Int32} {S : List Value} {Z : gZ} {I : gI} {J : gJ} : g_at 142 154 L (.int x :: S) Z I J = g_at 142 155 L (.long x.toInt64 :: S) Z I J := gq_i2l e_142_154
set_option maxRecDepth 100000 in
theorem e_142_155 : g_Pg 142 155 = ga_push (.int 32) 157 := (congrFun pg_142 155).trans rfl
theorem q_142_155 {L : List Value} {S : List Value} {Z : gZ} {I : gI} {J : gJ} : g_at 142 155 L S Z I J = g_at 142 157 L (.int 32 :: S) Z I J := gq_push e_142_155
set_option maxRecDepth 100000 in
theorem e_142_157 : g_Pg 142 157 = ga_lsh (fun x y => x <<< (y.toInt64 &&& 63)) 158 := (congrFun pg_142 157).trans rfl
theorem q_142_157 {L : List Value} {x : Int64} {y : Int32} {S : List Value} {Z : gZ} {I : gI} {J : gJ} : g_at 142 157 L (.int y :: .long x :: S) Z I J = g_at 142 158 L (.long (x <<< (y.toInt64 &&& 63)) :: S) Z I J := gq_lsh e_142_157
set_option maxRecDepth 100000 in
theorem e_142_158 : g_Pg 142 158 = ga_aload 0 159 := (congrFun pg_142 158).trans rfl
theorem q_142_158 {l1 l2 l3 : Value} {x : Nat} {S : List Value} {Z : gZ} {I : gI} {J : gJ} : g_at 142 158 [.ref x, l1, l2, l3] S Z I J = g_at 142 159 [.ref x, l1, l2, l3] (.ref x :: S) Z I J := gq_aload e_142_158 rfl
set_option maxRecDepth 100000 in
theorem e_142_159 : g_Pg 142 159 = ga_iload 3 160 := (congrFun pg_142 159).trans rfl
theorem q_142_159 {l0 l1 l2 : Value} {x : Int32} {S : List Value} {Z : gZ} {I : gI} {J : gJ} : g_at 142 159 [l0, l1, l2, .int x] S Z I J = g_at 142 160 [l0, l1, l2, .int x] (.int x :: S) Z I J := gq_iload e_142_159 rfl
set_option maxRecDepth 100000 in
theorem e_142_160 : g_Pg 142 160 = ga_push (.int 2) 161 := (congrFun pg_142 160).trans rfl
theorem q_142_160 {L : List Value} {S : List Value} {Z : gZ} {I : gI} {J : gJ} : g_at 142 160 L S Z I J = g_at 142 161 L (.int 2 :: S) Z I J := gq_push e_142_160
set_option maxRecDepth 100000 in
theorem e_142_161 : g_Pg 142 161 = ga_bin (fun x y => x + y) 162 := (congrFun pg_142 161).trans rfl
theorem q_142_161 {L : List Value} {x y : Int32} {S : List Value} {Z : gZ} {I : gI} {J : gJ} : g_at 142 161 L (.int y :: .int x :: S) Z I J = g_at 142 162 L (.int (x + y) :: S) Z I J := gq_bin e_142_161
set_option maxRecDepth 100000 in
theorem e_142_162 : g_Pg 142 162 = ga_iald 163 := (congrFun pg_142 162).trans rfl
theorem q_142_162 {L : List Value} {a : Nat} {i : Int32} {S : List Value} {Z : gZ} {I : gI} {J : gJ} (h : gTg8 (gKd Z a).1 a = true) (h0 : 0 ≤ i) (h1 : i.toNatClampNeg < (gKd Z a).2) : g_at 142 162 L (.int i :: .ref a :: S) Z I J = g_at 142 163 L (.int (I a i.toNatClampNeg) :: S) Z I J := gq_iald e_142_162 h h0 h1
set_option maxRecDepth 100000 in
theorem e_142_163 : g_Pg 142 163 = ga_i2l 164 := (congrFun pg_142 163).trans rfl
theorem q_142_163 {L : List Value} {x : Int32} {S : List Value} {Z : gZ} {I : gI} {J : gJ} : g_at 142 163 L (.int x :: S) Z I J = g_at 142 164 L (.long x.toInt64 :: S) Z I J := gq_i2l e_142_163
set_option maxRecDepth 100000 in
theorem e_142_164 : g_Pg 142 164 = ga_push (.long 4294967295) 167 := (congrFun pg_142 164).trans rfl
theorem q_142_164 {L : List Value} {S : List Value} {Z : gZ} {I : gI} {J : gJ} : g_at 142 164 L S Z I J = g_at 142 167 L (.long 4294967295 :: S) Z I J := gq_push e_142_164
set_option maxRecDepth 100000 in
theorem e_142_167 : g_Pg 142 167 = ga_lbin (fun x y => x &&& y) 168 := (congrFun pg_142 167).trans rfl
theorem q_142_167 {L : List Value} {x y : Int64} {S : List Value} {Z : gZ} {I : gI} {J : gJ} : g_at 142 167 L (.long y :: .long x :: S) Z I J = g_at 142 168 L (.long (x &&& y) :: S) Z I J := gq_lbin e_142_167
set_option maxRecDepth 100000 in
theorem e_142_168 : g_Pg 142 168 = ga_lbin (fun x y => x ||| y) 169 := (congrFun pg_142 168).trans rfl
theorem q_142_168 {L : List Value} {x y : Int64} {S : List Value} {Z : gZ} {I : gI} {J : gJ} : g_at 142 168 L (.long y :: .long x :: S) Z I J = g_at 142 169 L (.long (x ||| y) :: S) Z I J := gq_lbin e_142_168
set_option maxRecDepth 100000 in
theorem e_142_169 : g_Pg 142 169 = ga_aload 0 170 := (congrFun pg_142 169).trans rfl
theorem q_142_169 {l1 l2 l3 : Value} {x : Nat} {S : List Value} {Z : gZ} {I : gI} {J : gJ} : g_at 142 169 [.ref x, l1, l2, l3] S Z I J = g_at 142 170 [.ref x, l1, l2, l3] (.ref x :: S) Z I J := gq_aload e_142_169 rfl
set_option maxRecDepth 100000 in
theorem e_142_170 : g_Pg 142 170 = ga_iload 3 171 := (congrFun pg_142 170).trans rfl
theorem q_142_170 {l0 l1 l2 : Value} {x : Int32} {S : List Value} {Z : gZ} {I : gI} {J : gJ} : g_at 142 170 [l0, l1, l2, .int x] S Z I J = g_at 142 171 [l0, l1, l2, .int x] (.int x :: S) Z I J := gq_iload e_142_170 rfl
set_option maxRecDepth 100000 in
theorem e_142_171 : g_Pg 142 171 = ga_push (.int 3) 172 := (congrFun pg_142 171).trans rfl
theorem q_142_171 {L : List Value} {S : List Value} {Z : gZ} {I : gI} {J : gJ} : g_at 142 171 L S Z I J = g_at 142 172 L (.int 3 :: S) Z I J := gq_push e_142_171
set_option maxRecDepth 100000 in
theorem e_142_172 : g_Pg 142 172 = ga_bin (fun x y => x + y) 173 := (congrFun pg_142 172).trans rfl
theorem q_142_172 {L : List Value} {x y : Int32} {S : List Value} {Z : gZ} {I : gI} {J : gJ} : g_at 142 172 L (.int y :: .int x :: S) Z I J = g_at 142 173 L (.int (x + y) :: S) Z I J := gq_bin e_142_172
set_option maxRecDepth 100000 in
theorem e_142_173 : g_Pg 142 173 = ga_iald 174 := (congrFun pg_142 173).trans rfl
theorem q_142_173 {L : List Value} {a : Nat} {i : Int32} {S : List Value} {Z : gZ} {I : gI} {J : gJ} (h : gTg8 (gKd Z a).1 a = true) (h0 : 0 ≤ i) (h1 : i.toNatClampNeg < (gKd Z a).2) : g_at 142 173 L (.int i :: .ref a :: S) Z I J = g_at 142 174 L (.int (I a i.toNatClampNeg) :: S) Z I J := gq_iald e_142_173 h h0 h1
set_option maxRecDepth 100000 in
theorem e_142_174 : g_Pg 142 174 = ga_callV 6 53 2 177 := (congrFun pg_142 174).trans rfl
theorem q_142_174 {L : List Value} {a0 : Int32} {a1 : Int64} {a2 : Nat} {Z : gZ} {I : gI} {J : gJ} (h : (gKd Z a2).1 = 6) : g_at 142 174 L [.int a0, .long a1, .ref a2] Z I J = (g_at 53 0 [.ref a2, .long a1, .null, .int a0, .null] [] Z I J).bind (fun r => g_at 142 177 L (r.1.toList ++ []) r.2.1 r.2.2.1 r.2.2.2) := gq_callV e_142_174 rfl rfl h rfl rfl rfl rfl rfl
set_option maxRecDepth 100000 in
theorem e_142_177 : g_Pg 142 177 = ga_aload 2 178 := (congrFun pg_142 177).trans rfl
theorem q_142_177 {l0 l1 l3 : Value} {x : Nat} {S : List Value} {Z : gZ} {I : gI} {J : gJ} : g_at 142 177 [l0, l1, .ref x, l3] S Z I J = g_at 142 178 [l0, l1, .ref x, l3] (.ref x :: S) Z I J := gq_aload e_142_177 rfl
set_option maxRecDepth 100000 in
theorem e_142_178 : g_Pg 142 178 = ga_aload 0 179 := (congrFun pg_142 178).trans rfl
theorem q_142_178 {l1 l2 l3 : Value} {x : Nat} {S : List Value} {Z : gZ} {I : gI} {J : gJ} : g_at 142 178 [.ref x, l1, l2, l3] S Z I J = g_at 142 179 [.ref x, l1, l2, l3] (.ref x :: S) Z I J := gq_aload e_142_178 rfl
set_option maxRecDepth 100000 in
theorem e_142_179 : g_Pg 142 179 = ga_iload 3 180 := (congrFun pg_142 179).trans rfl
theorem q_142_179 {l0 l1 l2 : Value} {x : Int32} {S : List Value} {Z : gZ} {I : gI} {J : gJ} : g_at 142 179 [l0, l1, l2, .int x] S Z I J = g_at 142 180 [l0, l1, l2, .int x] (.int x :: S) Z I J := gq_iload e_142_179 rfl
set_option maxRecDepth 100000 in
theorem e_142_180 : g_Pg 142 180 = ga_push (.int 1) 181 := (congrFun pg_142 180).trans rfl
theorem q_142_180 {L : List Value} {S : List Value} {Z : gZ} {I : gI} {J : gJ} : g_at 142 180 L S Z I J = g_at 142 181 L (.int 1 :: S) Z I J := gq_push e_142_180
set_option maxRecDepth 100000 in
theorem e_142_181 : g_Pg 142 181 = ga_bin (fun x y => x + y) 182 := (congrFun pg_142 181).trans rfl
theorem q_142_181 {L : List Value} {x y : Int32} {S : List Value} {Z : gZ} {I : gI} {J : gJ} : g_at 142 181 L (.int y :: .int x :: S) Z I J = g_at 142 182 L (.int (x + y) :: S) Z I J := gq_bin e_142_181
set_option maxRecDepth 100000 in
theorem e_142_182 : g_Pg 142 182 = ga_iald 183 := (congrFun pg_142 182).trans rfl
theorem q_142_182 {L : List Value} {a : Nat} {i : Int32} {S : List Value} {Z : gZ} {I : gI} {J : gJ} (h : gTg8 (gKd Z a).1 a = true) (h0 : 0 ≤ i) (h1 : i.toNatClampNeg < (gKd Z a).2) : g_at 142 182 L (.int i :: .ref a :: S) Z I J = g_at 142 183 L (.int (I a i.toNatClampNeg) :: S) Z I J := gq_iald e_142_182 h h0 h1
set_option maxRecDepth 100000 in
theorem e_142_183 : g_Pg 142 183 = ga_i2l 184 := (congrFun pg_142 183).trans rfl
theorem q_142_183 {L : List Value} {x : Int32} {S : List Value} {Z : gZ} {I : gI} {J : gJ} : g_at 142 183 L (.int x :: S) Z I J = g_at 142 184 L (.long x.toInt64 :: S) Z I J := gq_i2l e_142_183
set_option maxRecDepth 100000 in
theorem e_142_184 : g_Pg 142 184 = ga_push (.int 32) 186 := (congrFun pg_142 184).trans rfl
theorem q_142_184 {L : List Value} {S : List Value} {Z : gZ} {I : gI} {J : gJ} : g_at 142 184 L S Z I J = g_at 142 186 L (.int 32 :: S) Z I J := gq_push e_142_184
set_option maxRecDepth 100000 in
theorem e_142_186 : g_Pg 142 186 = ga_lsh (fun x y => x <<< (y.toInt64 &&& 63)) 187 := (congrFun pg_142 186).trans rfl
theorem q_142_186 {L : List Value} {x : Int64} {y : Int32} {S : List Value} {Z : gZ} {I : gI} {J : gJ} : g_at 142 186 L (.int y :: .long x :: S) Z I J = g_at 142 187 L (.long (x <<< (y.toInt64 &&& 63)) :: S) Z I J := gq_lsh e_142_186
set_option maxRecDepth 100000 in
theorem e_142_187 : g_Pg 142 187 = ga_aload 0 188 := (congrFun pg_142 187).trans rfl
theorem q_142_187 {l1 l2 l3 : Value} {x : Nat} {S : List Value} {Z : gZ} {I : gI} {J : gJ} : g_at 142 187 [.ref x, l1, l2, l3] S Z I J = g_at 142 188 [.ref x, l1, l2, l3] (.ref x :: S) Z I J := gq_aload e_142_187 rfl
set_option maxRecDepth 100000 in
theorem e_142_188 : g_Pg 142 188 = ga_iload 3 189 := (congrFun pg_142 188).trans rfl
theorem q_142_188 {l0 l1 l2 : Value} {x : Int32} {S : List Value} {Z : gZ} {I : gI} {J : gJ} : g_at 142 188 [l0, l1, l2, .int x] S Z I J = g_at 142 189 [l0, l1, l2, .int x] (.int x :: S) Z I J := gq_iload e_142_188 rfl
set_option maxRecDepth 100000 in
theorem e_142_189 : g_Pg 142 189 = ga_push (.int 2) 190 := (congrFun pg_142 189).trans rfl
theorem q_142_189 {L : List Value} {S : List Value} {Z : gZ} {I : gI} {J : gJ} : g_at 142 189 L S Z I J = g_at 142 190 L (.int 2 :: S) Z I J := gq_push e_142_189
set_option maxRecDepth 100000 in
theorem e_142_190 : g_Pg 142 190 = ga_bin (fun x y => x + y) 191 := (congrFun pg_142 190).trans rfl
theorem q_142_190 {L : List Value} {x y : Int32} {S : List Value} {Z : gZ} {I : gI} {J : gJ} : g_at 142 190 L (.int y :: .int x :: S) Z I J = g_at 142 191 L (.int (x + y) :: S) Z I J := gq_bin e_142_190
set_option maxRecDepth 100000 in
theorem e_142_191 : g_Pg 142 191 = ga_iald 192 := (congrFun pg_142 191).trans rfl
theorem q_142_191 {L : List Value} {a : Nat} {i : Int32} {S : List Value} {Z : gZ} {I : gI} {J : gJ} (h : gTg8 (gKd Z a).1 a = true) (h0 : 0 ≤ i) (h1 : i.toNatClampNeg < (gKd Z a).2) : g_at 142 191 L (.int i :: .ref a :: S) Z I J = g_at 142 192 L (.int (I a i.toNatClampNeg) :: S) Z I J := gq_iald e_142_191 h h0 h1
set_option maxRecDepth 100000 in
theorem e_142_192 : g_Pg 142 192 = ga_i2l 193 := (congrFun pg_142 192).trans rfl
theorem q_142_192 {L : List Value} {x : Int32} {S : List Value} {Z : gZ} {I : gI} {J : gJ} : g_at 142 192 L (.int x :: S) Z I J = g_at 142 193 L (.long x.toInt64 :: S) Z I J := gq_i2l e_142_192
set_option maxRecDepth 100000 in
theorem e_142_193 : g_Pg 142 193 = ga_push (.long 4294967295) 196 := (congrFun pg_142 193).trans rfl
theorem q_142_193 {L : List Value} {S : List Value} {Z : gZ} {I : gI} {J : gJ} : g_at 142 193 L S Z I J = g_at 142 196 L (.long 4294967295 :: S) Z I J := gq_push e_142_193
set_option maxRecDepth 100000 in
theorem e_142_196 : g_Pg 142 196 = ga_lbin (fun x y => x &&& y) 197 := (congrFun pg_142 196).trans rfl
theorem q_142_196 {L : List Value} {x y : Int64} {S : List Value} {Z : gZ} {I : gI} {J : gJ} : g_at 142 196 L (.long y :: .long x :: S) Z I J = g_at 142 197 L (.long (x &&& y) :: S) Z I J := gq_lbin e_142_196
set_option maxRecDepth 100000 in
theorem e_142_197 : g_Pg 142 197 = ga_lbin (fun x y => x ||| y) 198 := (congrFun pg_142 197).trans rfl
theorem q_142_197 {L : List Value} {x y : Int64} {S : List Value} {Z : gZ} {I : gI} {J : gJ} : g_at 142 197 L (.long y :: .long x :: S) Z I J = g_at 142 198 L (.long (x ||| y) :: S) Z I J := gq_lbin e_142_197
set_option maxRecDepth 100000 in
theorem e_142_198 : g_Pg 142 198 = ga_aload 0 199 := (congrFun pg_142 198).trans rfl
theorem q_142_198 {l1 l2 l3 : Value} {x : Nat} {S : List Value} {Z : gZ} {I : gI} {J : gJ} : g_at 142 198 [.ref x, l1, l2, l3] S Z I J = g_at 142 199 [.ref x, l1, l2, l3] (.ref x :: S) Z I J := gq_aload e_142_198 rfl
set_option maxRecDepth 100000 in
theorem e_142_199 : g_Pg 142 199 = ga_iload 3 200 := (congrFun pg_142 199).trans rfl
theorem q_142_199 {l0 l1 l2 : Value} {x : Int32} {S : List Value} {Z : gZ} {I : gI} {J : gJ} : g_at 142 199 [l0, l1, l2, .int x] S Z I J = g_at 142 200 [l0, l1, l2, .int x] (.int x :: S) Z I J := gq_iload e_142_199 rfl
set_option maxRecDepth 100000 in
theorem e_142_200 : g_Pg 142 200 = ga_push (.int 3) 201 := (congrFun pg_142 200).trans rfl
theorem q_142_200 {L : List Value} {S : List Value} {Z : gZ} {I : gI} {J : gJ} : g_at 142 200 L S Z I J = g_at 142 201 L (.int 3 :: S) Z I J := gq_push e_142_200
set_option maxRecDepth 100000 in
theorem e_142_201 : g_Pg 142 201 = ga_bin (fun x y => x + y) 202 := (congrFun pg_142 201).trans rfl
theorem q_142_201 {L : List Value} {x y : Int32} {S : List Value} {Z : gZ} {I : gI} {J : gJ} : g_at 142 201 L (.int y :: .int x :: S) Z I J = g_at 142 202 L (.int (x + y) :: S) Z I J := gq_bin e_142_201
set_option maxRecDepth 100000 in
theorem e_142_202 : g_Pg 142 202 = ga_iald 203 := (congrFun pg_142 202).trans rfl
theorem q_142_202 {L : List Value} {a : Nat} {i : Int32} {S : List Value} {Z : gZ} {I : gI} {J : gJ} (h : gTg8 (gKd Z a).1 a = true) (h0 : 0 ≤ i) (h1 : i.toNatClampNeg < (gKd Z a).2) : g_at 142 202 L (.int i :: .ref a :: S) Z I J = g_at 142 203 L (.int (I a i.toNatClampNeg) :: S) Z I J := gq_iald e_142_202 h h0 h1
set_option maxRecDepth 100000 in
theorem e_142_203 : g_Pg 142 203 = ga_callV 7 87 2 206 := (congrFun pg_142 203).trans rfl
theorem q_142_203 {L : List Value} {a0 : Int32} {a1 : Int64} {a2 : Nat} {r3 : Int32} {Z : gZ} {I : gI} {J : gJ} (h : (gKd Z a2).1 = 7) : g_at 142 203 L [.int a0, .long a1, .ref a2, .int r3] Z I J = (g_at 87 0 [.ref a2, .long a1, .null, .int a0, .null] [] Z I J).bind (fun r => g_at 142 206 L (r.1.toList ++ [.int r3]) r.2.1 r.2.2.1 r.2.2.2) := gq_callV e_142_203 rfl rfl h rfl rfl rfl rfl rfl
set_option maxRecDepth 100000 in
theorem e_142_206 : g_Pg 142 206 = ga_cmp (fun x y => decide (x = y)) 893 209 := (congrFun pg_142 206).trans rfl
theorem q_142_206 {L : List Value} {x y : Int32} {S : List Value} {Z : gZ} {I : gI} {J : gJ} : g_at 142 206 L (.int y :: .int x :: S) Z I J = if x = y then g_at 142 893 L S Z I J else g_at 142 209 L S Z I J := gq_cmp e_142_206 rfl
set_option maxRecDepth 100000 in
theorem e_142_209 : g_Pg 142 209 = ga_push (.int 0) 210 := (congrFun pg_142 209).trans rfl
theorem q_142_209 {L : List Value} {S : List Value} {Z : gZ} {I : gI} {J : gJ} : g_at 142 209 L S Z I J = g_at 142 210 L (.int 0 :: S) Z I J := gq_push e_142_209
set_option maxRecDepth 100000 in
theorem e_142_210 : g_Pg 142 210 = ga_zret := (congrFun pg_142 210).trans rfl
theorem q_142_210 {L : List Value} {x : Int32} {Z : gZ} {I : gI} {J : gJ} (h : gB01 x = true) : g_at 142 210 L [.int x] Z I J = some (some (.int x), Z, I, J) := gq_zret e_142_210 h
set_option maxRecDepth 100000 in
theorem e_142_211 : g_Pg 142 211 = ga_aload 1 212 := (congrFun pg_142 211).trans rfl
theorem q_142_211 {l0 l2 l3 : Value} {x : Nat} {S : List Value} {Z : gZ} {I : gI} {J : gJ} : g_at 142 211 [l0, .ref x, l2, l3] S Z I J = g_at 142 212 [l0, .ref x, l2, l3] (.ref x :: S) Z I J := gq_aload e_142_211 rfl
set_option maxRecDepth 100000 in
theorem e_142_212 : g_Pg 142 212 = ga_callV 6 54 0 215 := (congrFun pg_142 212).trans rfl
theorem q_142_212 {L : List Value} {a0 : Nat} {Z : gZ} {I : gI} {J : gJ} (h : (gKd Z a0).1 = 6) : g_at 142 212 L [.ref a0] Z I J = (g_at 54 0 [.ref a0, .null] [] Z I J).bind (fun r => g_at 142 215 L (r.1.toList ++ []) r.2.1 r.2.2.1 r.2.2.2) := gq_callV e_142_212 rfl rfl h rfl rfl rfl rfl rfl
set_option maxRecDepth 100000 in
theorem e_142_215 : g_Pg 142 215 = ga_aload 2 216 := (congrFun pg_142 215).trans rfl
theorem q_142_215 {l0 l1 l3 : Value} {x : Nat} {S : List Value} {Z : gZ} {I : gI} {J : gJ} : g_at 142 215 [l0, l1, .ref x, l3] S Z I J = g_at 142 216 [l0, l1, .ref x, l3] (.ref x :: S) Z I J := gq_aload e_142_215 rfl
set_option maxRecDepth 100000 in
theorem e_142_216 : g_Pg 142 216 = ga_callV 7 88 0 219 := (congrFun pg_142 216).trans rfl
theorem q_142_216 {L : List Value} {a0 : Nat} {r1 : Int32} {Z : gZ} {I : gI} {J : gJ} (h : (gKd Z a0).1 = 7) : g_at 142 216 L [.ref a0, .int r1] Z I J = (g_at 88 0 [.ref a0, .null] [] Z I J).bind (fun r => g_at 142 219 L (r.1.toList ++ [.int r1]) r.2.1 r.2.2.1 r.2.2.2) := gq_callV e_142_216 rfl rfl h rfl rfl rfl rfl rfl
set_option maxRecDepth 100000 in
theorem e_142_219 : g_Pg 142 219 = ga_cmp (fun x y => decide (x = y)) 893 222 := (congrFun pg_142 219).trans rfl
theorem q_142_219 {L : List Value} {x y : Int32} {S : List Value} {Z : gZ} {I : gI} {J : gJ} : g_at 142 219 L (.int y :: .int x :: S) Z I J = if x = y then g_at 142 893 L S Z I J else g_at 142 222 L S Z I J := gq_cmp e_142_219 rfl
set_option maxRecDepth 100000 in
theorem e_142_222 : g_Pg 142 222 = ga_push (.int 0) 223 := (congrFun pg_142 222).trans rfl
theorem q_142_222 {L : List Value} {S : List Value} {Z : gZ} {I : gI} {J : gJ} : g_at 142 222 L S Z I J = g_at 142 223 L (.int 0 :: S) Z I J := gq_push e_142_222
set_option maxRecDepth 100000 in
theorem e_142_223 : g_Pg 142 223 = ga_zret := (congrFun pg_142 223).trans rfl
theorem q_142_223 {L : List Value} {x : Int32} {Z : gZ} {I : gI} {J : gJ} (h : gB01 x = true) : g_at 142 223 L [.int x] Z I J = some (some (.int x), Z, I, J) := gq_zret e_142_223 h
set_option maxRecDepth 100000 in
theorem e_142_224 : g_Pg 142 224 = ga_aload 1 225 := (congrFun pg_142 224).trans rfl
theorem q_142_224 {l0 l2 l3 : Value} {x : Nat} {S : List Value} {Z : gZ} {I : gI} {J : gJ} : g_at 142 224 [l0, .ref x, l2, l3] S Z I J = g_at 142 225 [l0, .ref x, l2, l3] (.ref x :: S) Z I J := gq_aload e_142_224 rfl
set_option maxRecDepth 100000 in
theorem e_142_225 : g_Pg 142 225 = ga_callV 6 55 0 228 := (congrFun pg_142 225).trans rfl
theorem q_142_225 {L : List Value} {a0 : Nat} {Z : gZ} {I : gI} {J : gJ} (h : (gKd Z a0).1 = 6) : g_at 142 225 L [.ref a0] Z I J = (g_at 55 0 [.ref a0] [] Z I J).bind (fun r => g_at 142 228 L (r.1.toList ++ []) r.2.1 r.2.2.1 r.2.2.2) := gq_callV e_142_225 rfl rfl h rfl rfl rfl rfl rfl
set_option maxRecDepth 100000 in
theorem e_142_228 : g_Pg 142 228 = ga_aload 2 229 := (congrFun pg_142 228).trans rfl
theorem q_142_228 {l0 l1 l3 : Value} {x : Nat} {S : List Value} {Z : gZ} {I : gI} {J : gJ} : g_at 142 228 [l0, l1, .ref x, l3] S Z I J = g_at 142 229 [l0, l1, .ref x, l3] (.ref x :: S) Z I J := gq_aload e_142_228 rfl
set_option maxRecDepth 100000 in
theorem e_142_229 : g_Pg 142 229 = ga_callV 7 96 0 232 := (congrFun pg_142 229).trans rfl
theorem q_142_229 {L : List Value} {a0 : Nat} {r1 : Int32} {Z : gZ} {I : gI} {J : gJ} (h : (gKd Z a0).1 = 7) : g_at 142 229 L [.ref a0, .int r1] Z I J = (g_at 96 0 [.ref a0] [] Z I J).bind (fun r => g_at 142 232 L (r.1.toList ++ [.int r1]) r.2.1 r.2.2.1 r.2.2.2) := gq_callV e_142_229 rfl rfl h rfl rfl rfl rfl rfl
set_option maxRecDepth 100000 in
theorem e_142_232 : g_Pg 142 232 = ga_cmp (fun x y => decide (x = y)) 893 235 := (congrFun pg_142 232).trans rfl
theorem q_142_232 {L : List Value} {x y : Int32} {S : List Value} {Z : gZ} {I : gI} {J : gJ} : g_at 142 232 L (.int y :: .int x :: S) Z I J = if x = y then g_at 142 893 L S Z I J else g_at 142 235 L S Z I J := gq_cmp e_142_232 rfl
set_option maxRecDepth 100000 in
theorem e_142_235 : g_Pg 142 235 = ga_push (.int 0) 236 := (congrFun pg_142 235).trans rfl
theorem q_142_235 {L : List Value} {S : List Value} {Z : gZ} {I : gI} {J : gJ} : g_at 142 235 L S Z I J = g_at 142 236 L (.int 0 :: S) Z I J := gq_push e_142_235
set_option maxRecDepth 100000 in
theorem e_142_236 : g_Pg 142 236 = ga_zret := (congrFun pg_142 236).trans rfl
theorem q_142_236 {L : List Value} {x : Int32} {Z : gZ} {I : gI} {J : gJ} (h : gB01 x = true) : g_at 142 236 L [.int x] Z I J = some (some (.int x), Z, I, J) := gq_zret e_142_236 h
set_option maxRecDepth 100000 in
theorem e_142_237 : g_Pg 142 237 = ga_aload 1 238 := (congrFun pg_142 237).trans rfl
theorem q_142_237 {l0 l2 l3 : Value} {x : Nat} {S : List Value} {Z : gZ} {I : gI} {J : gJ} : g_at 142 237 [l0, .ref x, l2, l3] S Z I J = g_at 142 238 [l0, .ref x, l2, l3] (.ref x :: S) Z I J := gq_aload e_142_237 rfl
set_option maxRecDepth 100000 in
theorem e_142_238 : g_Pg 142 238 = ga_callV 6 56 0 241 := (congrFun pg_142 238).trans rfl
theorem q_142_238 {L : List Value} {a0 : Nat} {Z : gZ} {I : gI} {J : gJ} (h : (gKd Z a0).1 = 6) : g_at 142 238 L [.ref a0] Z I J = (g_at 56 0 [.ref a0, .null] [] Z I J).bind (fun r => g_at 142 241 L (r.1.toList ++ []) r.2.1 r.2.2.1 r.2.2.2) := gq_callV e_142_238 rfl rfl h rfl rfl rfl rfl rfl
set_option maxRecDepth 100000 in
theorem e_142_241 : g_Pg 142 241 = ga_aload 2 242 := (congrFun pg_142 241).trans rfl
theorem q_142_241 {l0 l1 l3 : Value} {x : Nat} {S : List Value} {Z : gZ} {I : gI} {J : gJ} : g_at 142 241 [l0, l1, .ref x, l3] S Z I J = g_at 142 242 [l0, l1, .ref x, l3] (.ref x :: S) Z I J := gq_aload e_142_241 rfl
set_option maxRecDepth 100000 in
theorem e_142_242 : g_Pg 142 242 = ga_callV 7 98 0 245 := (congrFun pg_142 242).trans rfl
theorem q_142_242 {L : List Value} {a0 : Nat} {r1 : Int32} {Z : gZ} {I : gI} {J : gJ} (h : (gKd Z a0).1 = 7) : g_at 142 242 L [.ref a0, .int r1] Z I J = (g_at 98 0 [.ref a0, .null] [] Z I J).bind (fun r => g_at 142 245 L (r.1.toList ++ [.int r1]) r.2.1 r.2.2.1 r.2.2.2) := gq_callV e_142_242 rfl rfl h rfl rfl rfl rfl rfl
set_option maxRecDepth 100000 in
theorem e_142_245 : g_Pg 142 245 = ga_cmp (fun x y => decide (x = y)) 893 248 := (congrFun pg_142 245).trans rfl
theorem q_142_245 {L : List Value} {x y : Int32} {S : List Value} {Z : gZ} {I : gI} {J : gJ} : g_at 142 245 L (.int y :: .int x :: S) Z I J = if x = y then g_at 142 893 L S Z I J else g_at 142 248 L S Z I J := gq_cmp e_142_245 rfl
set_option maxRecDepth 100000 in
theorem e_142_248 : g_Pg 142 248 = ga_push (.int 0) 249 := (congrFun pg_142 248).trans rfl
theorem q_142_248 {L : List Value} {S : List Value} {Z : gZ} {I : gI} {J : gJ} : g_at 142 248 L S Z I J = g_at 142 249 L (.int 0 :: S) Z I J := gq_push e_142_248
set_option maxRecDepth 100000 in
theorem e_142_249 : g_Pg 142 249 = ga_zret := (congrFun pg_142 249).trans rfl
theorem q_142_249 {L : List Value} {x : Int32} {Z : gZ} {I : gI} {J : gJ} (h : gB01 x = true) : g_at 142 249 L [.int x] Z I J = some (some (.int x), Z, I, J) := gq_zret e_142_249 h
set_option maxRecDepth 100000 in
theorem e_142_250 : g_Pg 142 250 = ga_aload 1 251 := (congrFun pg_142 250).trans rfl
theorem q_142_250 {l0 l2 l3 : Value} {x : Nat} {S : List Value} {Z : gZ} {I : gI} {J : gJ} : g_at 142 250 [l0, .ref x, l2, l3] S Z I J = g_at 142 251 [l0, .ref x, l2, l3] (.ref x :: S) Z I J := gq_aload e_142_250 rfl
set_option maxRecDepth 100000 in
theorem e_142_251 : g_Pg 142 251 = ga_aload 0 252 := (congrFun pg_142 251).trans rfl
theorem q_142_251 {l1 l2 l3 : Value} {x : Nat} {S : List Value} {Z : gZ} {I : gI} {J : gJ} : g_at 142 251 [.ref x, l1, l2, l3] S Z I J = g_at 142 252 [.ref x, l1, l2, l3] (.ref x :: S) Z I J := gq_aload e_142_251 rfl
set_option maxRecDepth 100000 in
theorem e_142_252 : g_Pg 142 252 = ga_iload 3 253 := (congrFun pg_142 252).trans rfl
theorem q_142_252 {l0 l1 l2 : Value} {x : Int32} {S : List Value} {Z : gZ} {I : gI} {J : gJ} : g_at 142 252 [l0, l1, l2, .int x] S Z I J = g_at 142 253 [l0, l1, l2, .int x] (.int x :: S) Z I J := gq_iload e_142_252 rfl
set_option maxRecDepth 100000 in
theorem e_142_253 : g_Pg 142 253 = ga_push (.int 1) 254 := (congrFun pg_142 253).trans rfl
theorem q_142_253 {L : List Value} {S : List Value} {Z : gZ} {I : gI} {J : gJ} : g_at 142 253 L S Z I J = g_at 142 254 L (.int 1 :: S) Z I J := gq_push e_142_253
set_option maxRecDepth 100000 in
theorem e_142_254 : g_Pg 142 254 = ga_bin (fun x y => x + y) 255 := (congrFun pg_142 254).trans rfl
theorem q_142_254 {L : List Value} {x y : Int32} {S : List Value} {Z : gZ} {I : gI} {J : gJ} : g_at 142 254 L (.int y :: .int x :: S) Z I J = g_at 142 255 L (.int (x + y) :: S) Z I J := gq_bin e_142_254
set_option maxRecDepth 100000 in
theorem e_142_255 : g_Pg 142 255 = ga_iald 256 := (congrFun pg_142 255).trans rfl
theorem q_142_255 {L : List Value} {a : Nat} {i : Int32} {S : List Value} {Z : gZ} {I : gI} {J : gJ} (h : gTg8 (gKd Z a).1 a = true) (h0 : 0 ≤ i) (h1 : i.toNatClampNeg < (gKd Z a).2) : g_at 142 255 L (.int i :: .ref a :: S) Z I J = g_at 142 256 L (.int (I a i.toNatClampNeg) :: S) Z I J := gq_iald e_142_255 h h0 h1
set_option maxRecDepth 100000 in
theorem e_142_256 : g_Pg 142 256 = ga_aload 0 257 := (congrFun pg_142 256).trans rfl
theorem q_142_256 {l1 l2 l3 : Value} {x : Nat} {S : List Value} {Z : gZ} {I : gI} {J : gJ} : g_at 142 256 [.ref x, l1, l2, l3] S Z I J = g_at 142 257 [.ref x, l1, l2, l3] (.ref x :: S) Z I J := gq_aload e_142_256 rfl
set_option maxRecDepth 100000 in
theorem e_142_257 : g_Pg 142 257 = ga_iload 3 258 := (congrFun pg_142 257).trans rfl
theorem q_142_257 {l0 l1 l2 : Value} {x : Int32} {S : List Value} {Z : gZ} {I : gI} {J : gJ} : g_at 142 257 [l0, l1, l2, .int x] S Z I J = g_at 142 258 [l0, l1, l2, .int x] (.int x :: S) Z I J := gq_iload e_142_257 rfl
set_option maxRecDepth 100000 in
theorem e_142_258 : g_Pg 142 258 = ga_push (.int 2) 259 := (congrFun pg_142 258).trans rfl
theorem q_142_258 {L : List Value} {S : List Value} {Z : gZ} {I : gI} {J : gJ} : g_at 142 258 L S Z I J = g_at 142 259 L (.int 2 :: S) Z I J := gq_push e_142_258
set_option maxRecDepth 100000 in
theorem e_142_259 : g_Pg 142 259 = ga_bin (fun x y => x + y) 260 := (congrFun pg_142 259).trans rfl
theorem q_142_259 {L : List Value} {x y : Int32} {S : List Value} {Z : gZ} {I : gI} {J : gJ} : g_at 142 259 L (.int y :: .int x :: S) Z I J = g_at 142 260 L (.int (x + y) :: S) Z I J := gq_bin e_142_259
set_option maxRecDepth 100000 in
theorem e_142_260 : g_Pg 142 260 = ga_iald 261 := (congrFun pg_142 260).trans rfl
theorem q_142_260 {L : List Value} {a : Nat} {i : Int32} {S : List Value} {Z : gZ} {I : gI} {J : gJ} (h : gTg8 (gKd Z a).1 a = true) (h0 : 0 ≤ i) (h1 : i.toNatClampNeg < (gKd Z a).2) : g_at 142 260 L (.int i :: .ref a :: S) Z I J = g_at 142 261 L (.int (I a i.toNatClampNeg) :: S) Z I J := gq_iald e_142_260 h h0 h1
set_option maxRecDepth 100000 in
theorem e_142_261 : g_Pg 142 261 = ga_callV 6 57 2 264 := (congrFun pg_142 261).trans rfl
theorem q_142_261 {L : List Value} {a0 : Int32} {a1 : Int32} {a2 : Nat} {Z : gZ} {I : gI} {J : gJ} (h : (gKd Z a2).1 = 6) : g_at 142 261 L [.int a0, .int a1, .ref a2] Z I J = (g_at 57 0 [.ref a2, .int a1, .int a0] [] Z I J).bind (fun r => g_at 142 264 L (r.1.toList ++ []) r.2.1 r.2.2.1 r.2.2.2) := gq_callV e_142_261 rfl rfl h rfl rfl rfl rfl rfl
set_option maxRecDepth 100000 in
theorem e_142_264 : g_Pg 142 264 = ga_aload 2 265 := (congrFun pg_142 264).trans rfl
theorem q_142_264 {l0 l1 l3 : Value} {x : Nat} {S : List Value} {Z : gZ} {I : gI} {J : gJ} : g_at 142 264 [l0, l1, .ref x, l3] S Z I J = g_at 142 265 [l0, l1, .ref x, l3] (.ref x :: S) Z I J := gq_aload e_142_264 rfl
set_option maxRecDepth 100000 in
theorem e_142_265 : g_Pg 142 265 = ga_aload 0 266 := (congrFun pg_142 265).trans rfl
theorem q_142_265 {l1 l2 l3 : Value} {x : Nat} {S : List Value} {Z : gZ} {I : gI} {J : gJ} : g_at 142 265 [.ref x, l1, l2, l3] S Z I J = g_at 142 266 [.ref x, l1, l2, l3] (.ref x :: S) Z I J := gq_aload e_142_265 rfl
set_option maxRecDepth 100000 in
theorem e_142_266 : g_Pg 142 266 = ga_iload 3 267 := (congrFun pg_142 266).trans rfl
theorem q_142_266 {l0 l1 l2 : Value} {x : Int32} {S : List Value} {Z : gZ} {I : gI} {J : gJ} : g_at 142 266 [l0, l1, l2, .int x] S Z I J = g_at 142 267 [l0, l1, l2, .int x] (.int x :: S) Z I J := gq_iload e_142_266 rfl
set_option maxRecDepth 100000 in
theorem e_142_267 : g_Pg 142 267 = ga_push (.int 1) 268 := (congrFun pg_142 267).trans rfl
theorem q_142_267 {L : List Value} {S : List Value} {Z : gZ} {I : gI} {J : gJ} : g_at 142 267 L S Z I J = g_at 142 268 L (.int 1 :: S) Z I J := gq_push e_142_267
set_option maxRecDepth 100000 in
theorem e_142_268 : g_Pg 142 268 = ga_bin (fun x y => x + y) 269 := (congrFun pg_142 268).trans rfl
theorem q_142_268 {L : List Value} {x y : Int32} {S : List Value} {Z : gZ} {I : gI} {J : gJ} : g_at 142 268 L (.int y :: .int x :: S) Z I J = g_at 142 269 L (.int (x + y) :: S) Z I J := gq_bin e_142_268
set_option maxRecDepth 100000 in
theorem e_142_269 : g_Pg 142 269 = ga_iald 270 := (congrFun pg_142 269).trans rfl
theorem q_142_269 {L : List Value} {a : Nat} {i : Int32} {S : List Value} {Z : gZ} {I : gI} {J : gJ} (h : gTg8 (gKd Z a).1 a = true) (h0 : 0 ≤ i) (h1 : i.toNatClampNeg < (gKd Z a).2) : g_at 142 269 L (.int i :: .ref a :: S) Z I J = g_at 142 270 L (.int (I a i.toNatClampNeg) :: S) Z I J := gq_iald e_142_269 h h0 h1
set_option maxRecDepth 100000 in
theorem e_142_270 : g_Pg 142 270 = ga_aload 0 271 := (congrFun pg_142 270).trans rfl
theorem q_142_270 {l1 l2 l3 : Value} {x : Nat} {S : List Value} {Z : gZ} {I : gI} {J : gJ} : g_at 142 270 [.ref x, l1, l2, l3] S Z I J = g_at 142 271 [.ref x, l1, l2, l3] (.ref x :: S) Z I J := gq_aload e_142_270 rfl
set_option maxRecDepth 100000 in
theorem e_142_271 : g_Pg 142 271 = ga_iload 3 272 := (congrFun pg_142 271).trans rfl
theorem q_142_271 {l0 l1 l2 : Value} {x : Int32} {S : List Value} {Z : gZ} {I : gI} {J : gJ} : g_at 142 271 [l0, l1, l2, .int x] S Z I J = g_at 142 272 [l0, l1, l2, .int x] (.int x :: S) Z I J := gq_iload e_142_271 rfl
set_option maxRecDepth 100000 in
theorem e_142_272 : g_Pg 142 272 = ga_push (.int 2) 273 := (congrFun pg_142 272).trans rfl
theorem q_142_272 {L : List Value} {S : List Value} {Z : gZ} {I : gI} {J : gJ} : g_at 142 272 L S Z I J = g_at 142 273 L (.int 2 :: S) Z I J := gq_push e_142_272
set_option maxRecDepth 100000 in
theorem e_142_273 : g_Pg 142 273 = ga_bin (fun x y => x + y) 274 := (congrFun pg_142 273).trans rfl
theorem q_142_273 {L : List Value} {x y : Int32} {S : List Value} {Z : gZ} {I : gI} {J : gJ} : g_at 142 273 L (.int y :: .int x :: S) Z I J = g_at 142 274 L (.int (x + y) :: S) Z I J := gq_bin e_142_273
set_option maxRecDepth 100000 in
theorem e_142_274 : g_Pg 142 274 = ga_iald 275 := (congrFun pg_142 274).trans rfl
theorem q_142_274 {L : List Value} {a : Nat} {i : Int32} {S : List Value} {Z : gZ} {I : gI} {J : gJ} (h : gTg8 (gKd Z a).1 a = true) (h0 : 0 ≤ i) (h1 : i.toNatClampNeg < (gKd Z a).2) : g_at 142 274 L (.int i :: .ref a :: S) Z I J = g_at 142 275 L (.int (I a i.toNatClampNeg) :: S) Z I J := gq_iald e_142_274 h h0 h1
set_option maxRecDepth 100000 in
theorem e_142_275 : g_Pg 142 275 = ga_callV 7 101 2 278 := (congrFun pg_142 275).trans rfl
theorem q_142_275 {L : List Value} {a0 : Int32} {a1 : Int32} {a2 : Nat} {r3 : Int32} {Z : gZ} {I : gI} {J : gJ} (h : (gKd Z a2).1 = 7) : g_at 142 275 L [.int a0, .int a1, .ref a2, .int r3] Z I J = (g_at 101 0 [.ref a2, .int a1, .int a0, .null, .null] [] Z I J).bind (fun r => g_at 142 278 L (r.1.toList ++ [.int r3]) r.2.1 r.2.2.1 r.2.2.2) := gq_callV e_142_275 rfl rfl h rfl rfl rfl rfl rfl
set_option maxRecDepth 100000 in
theorem e_142_278 : g_Pg 142 278 = ga_cmp (fun x y => decide (x = y)) 893 281 := (congrFun pg_142 278).trans rfl
theorem q_142_278 {L : List Value} {x y : Int32} {S : List Value} {Z : gZ} {I : gI} {J : gJ} : g_at 142 278 L (.int y :: .int x :: S) Z I J = if x = y then g_at 142 893 L S Z I J else g_at 142 281 L S Z I J := gq_cmp e_142_278 rfl
set_option maxRecDepth 100000 in
theorem e_142_281 : g_Pg 142 281 = ga_push (.int 0) 282 := (congrFun pg_142 281).trans rfl
theorem q_142_281 {L : List Value} {S : List Value} {Z : gZ} {I : gI} {J : gJ} : g_at 142 281 L S Z I J = g_at 142 282 L (.int 0 :: S) Z I J := gq_push e_142_281
set_option maxRecDepth 100000 in
theorem e_142_282 : g_Pg 142 282 = ga_zret := (congrFun pg_142 282).trans rfl
theorem q_142_282 {L : List Value} {x : Int32} {Z : gZ} {I : gI} {J : gJ} (h : gB01 x = true) : g_at 142 282 L [.int x] Z I J = some (some (.int x), Z, I, J) := gq_zret e_142_282 h
set_option maxRecDepth 100000 in
theorem e_142_283 : g_Pg 142 283 = ga_aload 1 284 := (congrFun pg_142 283).trans rfl
theorem q_142_283 {l0 l2 l3 : Value} {x : Nat} {S : List Value} {Z : gZ} {I : gI} {J : gJ} : g_at 142 283 [l0, .ref x, l2, l3] S Z I J = g_at 142 284 [l0, .ref x, l2, l3] (.ref x :: S) Z I J := gq_aload e_142_283 rfl
set_option maxRecDepth 100000 in
theorem e_142_284 : g_Pg 142 284 = ga_aload 0 285 := (congrFun pg_142 284).trans rfl
theorem q_142_284 {l1 l2 l3 : Value} {x : Nat} {S : List Value} {Z : gZ} {I : gI} {J : gJ} : g_at 142 284 [.ref x, l1, l2, l3] S Z I J = g_at 142 285 [.ref x, l1, l2, l3] (.ref x :: S) Z I J := gq_aload e_142_284 rfl
set_option maxRecDepth 100000 in
theorem e_142_285 : g_Pg 142 285 = ga_iload 3 286 := (congrFun pg_142 285).trans rfl
theorem q_142_285 {l0 l1 l2 : Value} {x : Int32} {S : List Value} {Z : gZ} {I : gI} {J : gJ} : g_at 142 285 [l0, l1, l2, .int x] S Z I J = g_at 142 286 [l0, l1, l2, .int x] (.int x :: S) Z I J := gq_iload e_142_285 rfl
set_option maxRecDepth 100000 in
theorem e_142_286 : g_Pg 142 286 = ga_push (.int 1) 287 := (congrFun pg_142 286).trans rfl
theorem q_142_286 {L : List Value} {S : List Value} {Z : gZ} {I : gI} {J : gJ} : g_at 142 286 L S Z I J = g_at 142 287 L (.int 1 :: S) Z I J := gq_push e_142_286
set_option maxRecDepth 100000 in
theorem e_142_287 : g_Pg 142 287 = ga_bin (fun x y => x + y) 288 := (congrFun pg_142 287).trans rfl
theorem q_142_287 {L : List Value} {x y : Int32} {S : List Value} {Z : gZ} {I : gI} {J : gJ} : g_at 142 287 L (.int y :: .int x :: S) Z I J = g_at 142 288 L (.int (x + y) :: S) Z I J := gq_bin e_142_287
set_option maxRecDepth 100000 in
theorem e_142_288 : g_Pg 142 288 = ga_iald 289 := (congrFun pg_142 288).trans rfl
theorem q_142_288 {L : List Value} {a : Nat} {i : Int32} {S : List Value} {Z : gZ} {I : gI} {J : gJ} (h : gTg8 (gKd Z a).1 a = true) (h0 : 0 ≤ i) (h1 : i.toNatClampNeg < (gKd Z a).2) : g_at 142 288 L (.int i :: .ref a :: S) Z I J = g_at 142 289 L (.int (I a i.toNatClampNeg) :: S) Z I J := gq_iald e_142_288 h h0 h1
set_option maxRecDepth 100000 in
theorem e_142_289 : g_Pg 142 289 = ga_aload 0 290 := (congrFun pg_142 289).trans rfl
theorem q_142_289 {l1 l2 l3 : Value} {x : Nat} {S : List Value} {Z : gZ} {I : gI} {J : gJ} : g_at 142 289 [.ref x, l1, l2, l3] S Z I J = g_at 142 290 [.ref x, l1, l2, l3] (.ref x :: S) Z I J := gq_aload e_142_289 rfl
set_option maxRecDepth 100000 in
theorem e_142_290 : g_Pg 142 290 = ga_iload 3 291 := (congrFun pg_142 290).trans rfl
theorem q_142_290 {l0 l1 l2 : Value} {x : Int32} {S : List Value} {Z : gZ} {I : gI} {J : gJ} : g_at 142 290 [l0, l1, l2, .int x] S Z I J = g_at 142 291 [l0, l1, l2, .int x] (.int x :: S) Z I J := gq_iload e_142_290 rfl
set_option maxRecDepth 100000 in
theorem e_142_291 : g_Pg 142 291 = ga_push (.int 2) 292 := (congrFun pg_142 291).trans rfl
theorem q_142_291 {L : List Value} {S : List Value} {Z : gZ} {I : gI} {J : gJ} : g_at 142 291 L S Z I J = g_at 142 292 L (.int 2 :: S) Z I J := gq_push e_142_291
set_option maxRecDepth 100000 in
theorem e_142_292 : g_Pg 142 292 = ga_bin (fun x y => x + y) 293 := (congrFun pg_142 292).trans rfl
theorem q_142_292 {L : List Value} {x y : Int32} {S : List Value} {Z : gZ} {I : gI} {J : gJ} : g_at 142 292 L (.int y :: .int x :: S) Z I J = g_at 142 293 L (.int (x + y) :: S) Z I J := gq_bin e_142_292
set_option maxRecDepth 100000 in
theorem e_142_293 : g_Pg 142 293 = ga_iald 294 := (congrFun pg_142 293).trans rfl
theorem q_142_293 {L : List Value} {a : Nat} {i : Int32} {S : List Value} {Z : gZ} {I : gI} {J : gJ} (h : gTg8 (gKd Z a).1 a = true) (h0 : 0 ≤ i) (h1 : i.toNatClampNeg < (gKd Z a).2) : g_at 142 293 L (.int i :: .ref a :: S) Z I J = g_at 142 294 L (.int (I a i.toNatClampNeg) :: S) Z I J := gq_iald e_142_293 h h0 h1
set_option maxRecDepth 100000 in
theorem e_142_294 : g_Pg 142 294 = ga_callV 6 58 2 297 := (congrFun pg_142 294).trans rfl
theorem q_142_294 {L : List Value} {a0 : Int32} {a1 : Int32} {a2 : Nat} {Z : gZ} {I : gI} {J : gJ} (h : (gKd Z a2).1 = 6) : g_at 142 294 L [.int a0, .int a1, .ref a2] Z I J = (g_at 58 0 [.ref a2, .int a1, .int a0] [] Z I J).bind (fun r => g_at 142 297 L (r.1.toList ++ []) r.2.1 r.2.2.1 r.2.2.2) := gq_callV e_142_294 rfl rfl h rfl rfl rfl rfl rfl
set_option maxRecDepth 100000 in
theorem e_142_297 : g_Pg 142 297 = ga_aload 2 298 := (congrFun pg_142 297).trans rfl
theorem q_142_297 {l0 l1 l3 : Value} {x : Nat} {S : List Value} {Z : gZ} {I : gI} {J : gJ} : g_at 142 297 [l0, l1, .ref x, l3] S Z I J = g_at 142 298 [l0, l1, .ref x, l3] (.ref x :: S) Z I J := gq_aload e_142_297 rfl
set_option maxRecDepth 100000 in
theorem e_142_298 : g_Pg 142 298 = ga_aload 0 299 := (congrFun pg_142 298).trans rfl
theorem q_142_298 {l1 l2 l3 : Value} {x : Nat} {S : List Value} {Z : gZ} {I : gI} {J : gJ} : g_at 142 298 [.ref x, l1, l2, l3] S Z I J = g_at 142 299 [.ref x, l1, l2, l3] (.ref x :: S) Z I J := gq_aload e_142_298 rfl
set_option maxRecDepth 100000 in
theorem e_142_299 : g_Pg 142 299 = ga_iload 3 300 := (congrFun pg_142 299).trans rfl
theorem q_142_299 {l0 l1 l2 : Value} {x : Int32} {S : List Value} {Z : gZ} {I : gI} {J : gJ} : g_at 142 299 [l0, l1, l2, .int x] S Z I J = g_at 142 300 [l0, l1, l2, .int x] (.int x :: S) Z I J := gq_iload e_142_299 rfl
set_option maxRecDepth 100000 in
theorem e_142_300 : g_Pg 142 300 = ga_push (.int 1) 301 := (congrFun pg_142 300).trans rfl
theorem q_142_300 {L : List Value} {S : List Value} {Z : gZ} {I : gI} {J : gJ} : g_at 142 300 L S Z I J = g_at 142 301 L (.int 1 :: S) Z I J := gq_push e_142_300
set_option maxRecDepth 100000 in
theorem e_142_301 : g_Pg 142 301 = ga_bin (fun x y => x + y) 302 := (congrFun pg_142 301).trans rfl
theorem q_142_301 {L : List Value} {x y : Int32} {S : List Value} {Z : gZ} {I : gI} {J : gJ} : g_at 142 301 L (.int y :: .int x :: S) Z I J = g_at 142 302 L (.int (x + y) :: S) Z I J := gq_bin e_142_301
set_option maxRecDepth 100000 in
theorem e_142_302 : g_Pg 142 302 = ga_iald 303 := (congrFun pg_142 302).trans rfl
theorem q_142_302 {L : List Value} {a : Nat} {i : Int32} {S : List Value} {Z : gZ} {I : gI} {J : gJ} (h : gTg8 (gKd Z a).1 a = true) (h0 : 0 ≤ i) (h1 : i.toNatClampNeg < (gKd Z a).2) : g_at 142 302 L (.int i :: .ref a :: S) Z I J = g_at 142 303 L (.int (I a i.toNatClampNeg) :: S) Z I J := gq_iald e_142_302 h h0 h1
set_option maxRecDepth 100000 in
theorem e_142_303 : g_Pg 142 303 = ga_aload 0 304 := (congrFun pg_142 303).trans rfl
theorem q_142_303 {l1 l2 l3 : Value} {x : Nat} {S : List Value} {Z : gZ} {I : gI} {J : gJ} : g_at 142 303 [.ref x, l1, l2, l3] S Z I J = g_at 142 304 [.ref x, l1, l2, l3] (.ref x :: S) Z I J := gq_aload e_142_303 rfl
set_option maxRecDepth 100000 in
theorem e_142_304 : g_Pg 142 304 = ga_iload 3 305 := (congrFun pg_142 304).trans rfl
theorem q_142_304 {l0 l1 l2 : Value} {x : Int32} {S : List Value} {Z : gZ} {I : gI} {J : gJ} : g_at 142 304 [l0, l1, l2, .int x] S Z I J = g_at 142 305 [l0, l1, l2, .int x] (.int x :: S) Z I J := gq_iload e_142_304 rfl
set_option maxRecDepth 100000 in
theorem e_142_305 : g_Pg 142 305 = ga_push (.int 2) 306 := (congrFun pg_142 305).trans rfl
theorem q_142_305 {L : List Value} {S : List Value} {Z : gZ} {I : gI} {J : gJ} : g_at 142 305 L S Z I J = g_at 142 306 L (.int 2 :: S) Z I J := gq_push e_142_305
set_option maxRecDepth 100000 in
theorem e_142_306 : g_Pg 142 306 = ga_bin (fun x y => x + y) 307 := (congrFun pg_142 306).trans rfl
theorem q_142_306 {L : List Value} {x y : Int32} {S : List Value} {Z : gZ} {I : gI} {J : gJ} : g_at 142 306 L (.int y :: .int x :: S) Z I J = g_at 142 307 L (.int (x + y) :: S) Z I J := gq_bin e_142_306
set_option maxRecDepth 100000 in
theorem e_142_307 : g_Pg 142 307 = ga_iald 308 := (congrFun pg_142 307).trans rfl
theorem q_142_307 {L : List Value} {a : Nat} {i : Int32} {S : List Value} {Z : gZ} {I : gI} {J : gJ} (h : gTg8 (gKd Z a).1 a = true) (h0 : 0 ≤ i) (h1 : i.toNatClampNeg < (gKd Z a).2) : g_at 142 307 L (.int i :: .ref a :: S) Z I J = g_at 142 308 L (.int (I a i.toNatClampNeg) :: S) Z I J := gq_iald e_142_307 h h0 h1
set_option maxRecDepth 100000 in
theorem e_142_308 : g_Pg 142 308 = ga_callV 7 102 2 311 := (congrFun pg_142 308).trans rfl
theorem q_142_308 {L : List Value} {a0 : Int32} {a1 : Int32} {a2 : Nat} {r3 : Int32} {Z : gZ} {I : gI} {J : gJ} (h : (gKd Z a2).1 = 7) : g_at 142 308 L [.int a0, .int a1, .ref a2, .int r3] Z I J = (g_at 102 0 [.ref a2, .int a1, .int a0] [] Z I J).bind (fun r => g_at 142 311 L (r.1.toList ++ [.int r3]) r.2.1 r.2.2.1 r.2.2.2) := gq_callV e_142_308 rfl rfl h rfl rfl rfl rfl rfl
set_option maxRecDepth 100000 in
theorem e_142_311 : g_Pg 142 311 = ga_cmp (fun x y => decide (x = y)) 893 314 := (congrFun pg_142 311).trans rfl
theorem q_142_311 {L : List Value} {x y : Int32} {S : List Value} {Z : gZ} {I : gI} {J : gJ} : g_at 142 311 L (.int y :: .int x :: S) Z I J = if x = y then g_at 142 893 L S Z I J else g_at 142 314 L S Z I J := gq_cmp e_142_311 rfl
set_option maxRecDepth 100000 in
theorem e_142_314 : g_Pg 142 314 = ga_push (.int 0) 315 := (congrFun pg_142 314).trans rfl
theorem q_142_314 {L : List Value} {S : List Value} {Z : gZ} {I : gI} {J : gJ} : g_at 142 314 L S Z I J = g_at 142 315 L (.int 0 :: S) Z I J := gq_push e_142_314
set_option maxRecDepth 100000 in
theorem e_142_315 : g_Pg 142 315 = ga_zret := (congrFun pg_142 315).trans rfl
theorem q_142_315 {L : List Value} {x : Int32} {Z : gZ} {I : gI} {J : gJ} (h : gB01 x = true) : g_at 142 315 L [.int x] Z I J = some (some (.int x), Z, I, J) := gq_zret e_142_315 h
set_option maxRecDepth 100000 in
theorem e_142_316 : g_Pg 142 316 = ga_aload 1 317 := (congrFun pg_142 316).trans rfl
theorem q_142_316 {l0 l2 l3 : Value} {x : Nat} {S : List Value} {Z : gZ} {I : gI} {J : gJ} : g_at 142 316 [l0, .ref x, l2, l3] S Z I J = g_at 142 317 [l0, .ref x, l2, l3] (.ref x :: S) Z I J := gq_aload e_142_316 rfl
set_option maxRecDepth 100000 in
theorem e_142_317 : g_Pg 142 317 = ga_aload 0 318 := (congrFun pg_142 317).trans rfl
theorem q_142_317 {l1 l2 l3 : Value} {x : Nat} {S : List Value} {Z : gZ} {I : gI} {J : gJ} : g_at 142 317 [.ref x, l1, l2, l3] S Z I J = g_at 142 318 [.ref x, l1, l2, l3] (.ref x :: S) Z I J := gq_aload e_142_317 rfl
set_option maxRecDepth 100000 in
theorem e_142_318 : g_Pg 142 318 = ga_iload 3 319 := (congrFun pg_142 318).trans rfl
theorem q_142_318 {l0 l1 l2 : Value} {x : Int32} {S : List Value} {Z : gZ} {I : gI} {J : gJ} : g_at 142 318 [l0, l1, l2, .int x] S Z I J = g_at 142 319 [l0, l1, l2, .int x] (.int x :: S) Z I J := gq_iload e_142_318 rfl
set_option maxRecDepth 100000 in
theorem e_142_319 : g_Pg 142 319 = ga_push (.int 1) 320 := (congrFun pg_142 319).trans rfl
theorem q_142_319 {L : List Value} {S : List Value} {Z : gZ} {I : gI} {J : gJ} : g_at 142 319 L S Z I J = g_at 142 320 L (.int 1 :: S) Z I J := gq_push e_142_319
set_option maxRecDepth 100000 in
theorem e_142_320 : g_Pg 142 320 = ga_bin (fun x y => x + y) 321 := (congrFun pg_142 320).trans rfl
theorem q_142_320 {L : List Value} {x y : Int32} {S : List Value} {Z : gZ} {I : gI} {J : gJ} : g_at 142 320 L (.int y :: .int x :: S) Z I J = g_at 142 321 L (.int (x + y) :: S) Z I J := gq_bin e_142_320
set_option maxRecDepth 100000 in
theorem e_142_321 : g_Pg 142 321 = ga_iald 322 := (congrFun pg_142 321).trans rfl
theorem q_142_321 {L : List Value} {a : Nat} {i : Int32} {S : List Value} {Z : gZ} {I : gI} {J : gJ} (h : gTg8 (gKd Z a).1 a = true) (h0 : 0 ≤ i) (h1 : i.toNatClampNeg < (gKd Z a).2) : g_at 142 321 L (.int i :: .ref a :: S) Z I J = g_at 142 322 L (.int (I a i.toNatClampNeg) :: S) Z I J := gq_iald e_142_321 h h0 h1
set_option maxRecDepth 100000 in
theorem e_142_322 : g_Pg 142 322 = ga_aload 0 323 := (congrFun pg_142 322).trans rfl
theorem q_142_322 {l1 l2 l3 : Value} {x : Nat} {S : List Value} {Z : gZ} {I : gI} {J : gJ} : g_at 142 322 [.ref x, l1, l2, l3] S Z I J = g_at 142 323 [.ref x, l1, l2, l3] (.ref x :: S) Z I J := gq_aload e_142_322 rfl
set_option maxRecDepth 100000 in
theorem e_142_323 : g_Pg 142 323 = ga_iload 3 324 := (congrFun pg_142 323).trans rfl
theorem q_142_323 {l0 l1 l2 : Value} {x : Int32} {S : List Value} {Z : gZ} {I : gI} {J : gJ} : g_at 142 323 [l0, l1, l2, .int x] S Z I J = g_at 142 324 [l0, l1, l2, .int x] (.int x :: S) Z I J := gq_iload e_142_323 rfl
set_option maxRecDepth 100000 in
theorem e_142_324 : g_Pg 142 324 = ga_push (.int 2) 325 := (congrFun pg_142 324).trans rfl
theorem q_142_324 {L : List Value} {S : List Value} {Z : gZ} {I : gI} {J : gJ} : g_at 142 324 L S Z I J = g_at 142 325 L (.int 2 :: S) Z I J := gq_push e_142_324
set_option maxRecDepth 100000 in
theorem e_142_325 : g_Pg 142 325 = ga_bin (fun x y => x + y) 326 := (congrFun pg_142 325).trans rfl
theorem q_142_325 {L : List Value} {x y : Int32} {S : List Value} {Z : gZ} {I : gI} {J : gJ} : g_at 142 325 L (.int y :: .int x :: S) Z I J = g_at 142 326 L (.int (x + y) :: S) Z I J := gq_bin e_142_325
set_option maxRecDepth 100000 in
theorem e_142_326 : g_Pg 142 326 = ga_iald 327 := (congrFun pg_142 326).trans rfl
theorem q_142_326 {L : List Value} {a : Nat} {i : Int32} {S : List Value} {Z : gZ} {I : gI} {J : gJ} (h : gTg8 (gKd Z a).1 a = true) (h0 : 0 ≤ i) (h1 : i.toNatClampNeg < (gKd Z a).2) : g_at 142 326 L (.int i :: .ref a :: S) Z I J = g_at 142 327 L (.int (I a i.toNatClampNeg) :: S) Z I J := gq_iald e_142_326 h h0 h1
set_option maxRecDepth 100000 in
theorem e_142_327 : g_Pg 142 327 = ga_callV 6 59 2 330 := (congrFun pg_142 327).trans rfl
theorem q_142_327 {L : List Value} {a0 : Int32} {a1 : Int32} {a2 : Nat} {Z : gZ} {I : gI} {J : gJ} (h : (gKd Z a2).1 = 6) : g_at 142 327 L [.int a0, .int a1, .ref a2] Z I J = (g_at 59 0 [.ref a2, .int a1, .int a0] [] Z I J).bind (fun r => g_at 142 330 L (r.1.toList ++ []) r.2.1 r.2.2.1 r.2.2.2) := gq_callV e_142_327 rfl rfl h rfl rfl rfl rfl rfl
set_option maxRecDepth 100000 in
theorem e_142_330 : g_Pg 142 330 = ga_aload 2 331 := (congrFun pg_142 330).trans rfl
theorem q_142_330 {l0 l1 l3 : Value} {x : Nat} {S : List Value} {Z : gZ} {I : gI} {J : gJ} : g_at 142 330 [l0, l1, .ref x, l3] S Z I J = g_at 142 331 [l0, l1, .ref x, l3] (.ref x :: S) Z I J := gq_aload e_142_330 rfl
set_option maxRecDepth 100000 in
theorem e_142_331 : g_Pg 142 331 = ga_aload 0 332 := (congrFun pg_142 331).trans rfl
theorem q_142_331 {l1 l2 l3 : Value} {x : Nat} {S : List Value} {Z : gZ} {I : gI} {J : gJ} : g_at 142 331 [.ref x, l1, l2, l3] S Z I J = g_at 142 332 [.ref x, l1, l2, l3] (.ref x :: S) Z I J := gq_aload e_142_331 rfl
set_option maxRecDepth 100000 in
theorem e_142_332 : g_Pg 142 332 = ga_iload 3 333 := (congrFun pg_142 332).trans rfl
theorem q_142_332 {l0 l1 l2 : Value} {x : Int32} {S : List Value} {Z : gZ} {I : gI} {J : gJ} : g_at 142 332 [l0, l1, l2, .int x] S Z I J = g_at 142 333 [l0, l1, l2, .int x] (.int x :: S) Z I J := gq_iload e_142_332 rfl
set_option maxRecDepth 100000 in
theorem e_142_333 : g_Pg 142 333 = ga_push (.int 1) 334 := (congrFun pg_142 333).trans rfl
theorem q_142_333 {L : List Value} {S : List Value} {Z : gZ} {I : gI} {J : gJ} : g_at 142 333 L S Z I J = g_at 142 334 L (.int 1 :: S) Z I J := gq_push e_142_333
set_option maxRecDepth 100000 in
theorem e_142_334 : g_Pg 142 334 = ga_bin (fun x y => x + y) 335 := (congrFun pg_142 334).trans rfl
theorem q_142_334 {L : List Value} {x y : Int32} {S : List Value} {Z : gZ} {I : gI} {J : gJ} : g_at 142 334 L (.int y :: .int x :: S) Z I J = g_at 142 335 L (.int (x + y) :: S) Z I J := gq_bin e_142_334
set_option maxRecDepth 100000 in
theorem e_142_335 : g_Pg 142 335 = ga_iald 336 := (congrFun pg_142 335).trans rfl
theorem q_142_335 {L : List Value} {a : Nat} {i : Int32} {S : List Value} {Z : gZ} {I : gI} {J : gJ} (h : gTg8 (gKd Z a).1 a = true) (h0 : 0 ≤ i) (h1 : i.toNatClampNeg < (gKd Z a).2) : g_at 142 335 L (.int i :: .ref a :: S) Z I J = g_at 142 336 L (.int (I a i.toNatClampNeg) :: S) Z I J := gq_iald e_142_335 h h0 h1
set_option maxRecDepth 100000 in
theorem e_142_336 : g_Pg 142 336 = ga_aload 0 337 := (congrFun pg_142 336).trans rfl
theorem q_142_336 {l1 l2 l3 : Value} {x : Nat} {S : List Value} {Z : gZ} {I : gI} {J : gJ} : g_at 142 336 [.ref x, l1, l2, l3] S Z I J = g_at 142 337 [.ref x, l1, l2, l3] (.ref x :: S) Z I J := gq_aload e_142_336 rfl
set_option maxRecDepth 100000 in
theorem e_142_337 : g_Pg 142 337 = ga_iload 3 338 := (congrFun pg_142 337).trans rfl
theorem q_142_337 {l0 l1 l2 : Value} {x : Int32} {S : List Value} {Z : gZ} {I : gI} {J : gJ} : g_at 142 337 [l0, l1, l2, .int x] S Z I J = g_at 142 338 [l0, l1, l2, .int x] (.int x :: S) Z I J := gq_iload e_142_337 rfl
set_option maxRecDepth 100000 in
theorem e_142_338 : g_Pg 142 338 = ga_push (.int 2) 339 := (congrFun pg_142 338).trans rfl
theorem q_142_338 {L : List Value} {S : List Value} {Z : gZ} {I : gI} {J : gJ} : g_at 142 338 L S Z I J = g_at 142 339 L (.int 2 :: S) Z I J := gq_push e_142_338
set_option maxRecDepth 100000 in
theorem e_142_339 : g_Pg 142 339 = ga_bin (fun x y => x + y) 340 := (congrFun pg_142 339).trans rfl
theorem q_142_339 {L : List Value} {x y : Int32} {S : List Value} {Z : gZ} {I : gI} {J : gJ} : g_at 142 339 L (.int y :: .int x :: S) Z I J = g_at 142 340 L (.int (x + y) :: S) Z I J := gq_bin e_142_339
set_option maxRecDepth 100000 in
theorem e_142_340 : g_Pg 142 340 = ga_iald 341 := (congrFun pg_142 340).trans rfl
theorem q_142_340 {L : List Value} {a : Nat} {i : Int32} {S : List Value} {Z : gZ} {I : gI} {J : gJ} (h : gTg8 (gKd Z a).1 a = true) (h0 : 0 ≤ i) (h1 : i.toNatClampNeg < (gKd Z a).2) : g_at 142 340 L (.int i :: .ref a :: S) Z I J = g_at 142 341 L (.int (I a i.toNatClampNeg) :: S) Z I J := gq_iald e_142_340 h h0 h1
set_option maxRecDepth 100000 in
theorem e_142_341 : g_Pg 142 341 = ga_callV 7 103 2 344 := (congrFun pg_142 341).trans rfl
theorem q_142_341 {L : List Value} {a0 : Int32} {a1 : Int32} {a2 : Nat} {r3 : Int32} {Z : gZ} {I : gI} {J : gJ} (h : (gKd Z a2).1 = 7) : g_at 142 341 L [.int a0, .int a1, .ref a2, .int r3] Z I J = (g_at 103 0 [.ref a2, .int a1, .int a0, .null, .null] [] Z I J).bind (fun r => g_at 142 344 L (r.1.toList ++ [.int r3]) r.2.1 r.2.2.1 r.2.2.2) := gq_callV e_142_341 rfl rfl h rfl rfl rfl rfl rfl
set_option maxRecDepth 100000 in
theorem e_142_344 : g_Pg 142 344 = ga_cmp (fun x y => decide (x = y)) 893 347 := (congrFun pg_142 344).trans rfl
theorem q_142_344 {L : List Value} {x y : Int32} {S : List Value} {Z : gZ} {I : gI} {J : gJ} : g_at 142 344 L (.int y :: .int x :: S) Z I J = if x = y then g_at 142 893 L S Z I J else g_at 142 347 L S Z I J := gq_cmp e_142_344 rfl
set_option maxRecDepth 100000 in
theorem e_142_347 : g_Pg 142 347 = ga_push (.int 0) 348 := (congrFun pg_142 347).trans rfl
theorem q_142_347 {L : List Value} {S : List Value} {Z : gZ} {I : gI} {J : gJ} : g_at 142 347 L S Z I J = g_at 142 348 L (.int 0 :: S) Z I J := gq_push e_142_347
set_option maxRecDepth 100000 in
theorem e_142_348 : g_Pg 142 348 = ga_zret := (congrFun pg_142 348).trans rfl
theorem q_142_348 {L : List Value} {x : Int32} {Z : gZ} {I : gI} {J : gJ} (h : gB01 x = true) : g_at 142 348 L [.int x] Z I J = some (some (.int x), Z, I, J) := gq_zret e_142_348 h
set_option maxRecDepth 100000 in
theorem e_142_349 : g_Pg 142 349 = ga_aload 1 350 := (congrFun pg_142 349).trans rfl
theorem q_142_349 {l0 l2 l3 : Value} {x : Nat} {S : List Value} {Z : gZ} {I : gI} {J : gJ} : g_at 142 349 [l0, .ref x, l2, l3] S Z I J = g_at 142 350 [l0, .ref x, l2, l3] (.ref x :: S) Z I J := gq_aload e_142_349 rfl
set_option maxRecDepth 100000 in
theorem e_142_350 : g_Pg 142 350 = ga_aload 0 351 := (congrFun pg_142 350).trans rfl
theorem q_142_350 {l1 l2 l3 : Value} {x : Nat} {S : List Value} {Z : gZ} {I : gI} {J : gJ} : g_at 142 350 [.ref x, l1, l2, l3] S Z I J = g_at 142 351 [.ref x, l1, l2, l3] (.ref x :: S) Z I J := gq_aload e_142_350 rfl
set_option maxRecDepth 100000 in
theorem e_142_351 : g_Pg 142 351 = ga_iload 3 352 := (congrFun pg_142 351).trans rfl
theorem q_142_351 {l0 l1 l2 : Value} {x : Int32} {S : List Value} {Z : gZ} {I : gI} {J : gJ} : g_at 142 351 [l0, l1, l2, .int x] S Z I J = g_at 142 352 [l0, l1, l2, .int x] (.int x :: S) Z I J := gq_iload e_142_351 rfl
set_option maxRecDepth 100000 in
theorem e_142_352 : g_Pg 142 352 = ga_push (.int 1) 353 := (congrFun pg_142 352).trans rfl
theorem q_142_352 {L : List Value} {S : List Value} {Z : gZ} {I : gI} {J : gJ} : g_at 142 352 L S Z I J = g_at 142 353 L (.int 1 :: S) Z I J := gq_push e_142_352
set_option maxRecDepth 100000 in
theorem e_142_353 : g_Pg 142 353 = ga_bin (fun x y => x + y) 354 := (congrFun pg_142 353).trans rfl
theorem q_142_353 {L : List Value} {x y : Int32} {S : List Value} {Z : gZ} {I : gI} {J : gJ} : g_at 142 353 L (.int y :: .int x :: S) Z I J = g_at 142 354 L (.int (x + y) :: S) Z I J := gq_bin e_142_353
set_option maxRecDepth 100000 in
theorem e_142_354 : g_Pg 142 354 = ga_iald 355 := (congrFun pg_142 354).trans rfl
theorem q_142_354 {L : List Value} {a : Nat} {i : Int32} {S : List Value} {Z : gZ} {I : gI} {J : gJ} (h : gTg8 (gKd Z a).1 a = true) (h0 : 0 ≤ i) (h1 : i.toNatClampNeg < (gKd Z a).2) : g_at 142 354 L (.int i :: .ref a :: S) Z I J = g_at 142 355 L (.int (I a i.toNatClampNeg) :: S) Z I J := gq_iald e_142_354 h h0 h1
set_option maxRecDepth 100000 in
theorem e_142_355 : g_Pg 142 355 = ga_callV 6 61 1 358 := (congrFun pg_142 355).trans rfl
theorem q_142_355 {L : List Value} {a0 : Int32} {a1 : Nat} {Z : gZ} {I : gI} {J : gJ} (h : (gKd Z a1).1 = 6) : g_at 142 355 L [.int a0, .ref a1] Z I J = (g_at 61 0 [.ref a1, .int a0] [] Z I J).bind (fun r => g_at 142 358 L (r.1.toList ++ []) r.2.1 r.2.2.1 r.2.2.2) := gq_callV e_142_355 rfl rfl h rfl rfl rfl rfl rfl
set_option maxRecDepth 100000 in
theorem e_142_358 : g_Pg 142 358 = ga_aload 2 359 := (congrFun pg_142 358).trans rfl
theorem q_142_358 {l0 l1 l3 : Value} {x : Nat} {S : List Value} {Z : gZ} {I : gI} {J : gJ} : g_at 142 358 [l0, l1, .ref x, l3] S Z I J = g_at 142 359 [l0, l1, .ref x, l3] (.ref x :: S) Z I J := gq_aload e_142_358 rfl
set_option maxRecDepth 100000 in
theorem e_142_359 : g_Pg 142 359 = ga_aload 0 360 := (congrFun pg_142 359).trans rfl
theorem q_142_359 {l1 l2 l3 : Value} {x : Nat} {S : List Value} {Z : gZ} {I : gI} {J : gJ} : g_at 142 359 [.ref x, l1, l2, l3] S Z I J = g_at 142 360 [.ref x, l1, l2, l3] (.ref x :: S) Z I J := gq_aload e_142_359 rfl
set_option maxRecDepth 100000 in
theorem e_142_360 : g_Pg 142 360 = ga_iload 3 361 := (congrFun pg_142 360).trans rfl
theorem q_142_360 {l0 l1 l2 : Value} {x : Int32} {S : List Value} {Z : gZ} {I : gI} {J : gJ} : g_at 142 360 [l0, l1, l2, .int x] S Z I J = g_at 142 361 [l0, l1, l2, .int x] (.int x :: S) Z I J := gq_iload e_142_360 rfl
set_option maxRecDepth 100000 in
theorem e_142_361 : g_Pg 142 361 = ga_push (.int 1) 362 := (congrFun pg_142 361).trans rfl
theorem q_142_361 {L : List Value} {S : List Value} {Z : gZ} {I : gI} {J : gJ} : g_at 142 361 L S Z I J = g_at 142 362 L (.int 1 :: S) Z I J := gq_push e_142_361
set_option maxRecDepth 100000 in
theorem e_142_362 : g_Pg 142 362 = ga_bin (fun x y => x + y) 363 := (congrFun pg_142 362).trans rfl
theorem q_142_362 {L : List Value} {x y : Int32} {S : List Value} {Z : gZ} {I : gI} {J : gJ} : g_at 142 362 L (.int y :: .int x :: S) Z I J = g_at 142 363 L (.int (x + y) :: S) Z I J := gq_bin e_142_362
set_option maxRecDepth 100000 in
theorem e_142_363 : g_Pg 142 363 = ga_iald 364 := (congrFun pg_142 363).trans rfl
theorem q_142_363 {L : List Value} {a : Nat} {i : Int32} {S : List Value} {Z : gZ} {I : gI} {J : gJ} (h : gTg8 (gKd Z a).1 a = true) (h0 : 0 ≤ i) (h1 : i.toNatClampNeg < (gKd Z a).2) : g_at 142 363 L (.int i :: .ref a :: S) Z I J = g_at 142 364 L (.int (I a i.toNatClampNeg) :: S) Z I J := gq_iald e_142_363 h h0 h1
set_option maxRecDepth 100000 in
theorem e_142_364 : g_Pg 142 364 = ga_callV 7 105 1 367 := (congrFun pg_142 364).trans rfl
theorem q_142_364 {L : List Value} {a0 : Int32} {a1 : Nat} {r2 : Int32} {Z : gZ} {I : gI} {J : gJ} (h : (gKd Z a1).1 = 7) : g_at 142 364 L [.int a0, .ref a1, .int r2] Z I J = (g_at 105 0 [.ref a1, .int a0] [] Z I J).bind (fun r => g_at 142 367 L (r.1.toList ++ [.int r2]) r.2.1 r.2.2.1 r.2.2.2) := gq_callV e_142_364 rfl rfl h rfl rfl rfl rfl rfl
set_option maxRecDepth 100000 in
theorem e_142_367 : g_Pg 142 367 = ga_cmp (fun x y => decide (x = y)) 893 370 := (congrFun pg_142 367).trans rfl
theorem q_142_367 {L : List Value} {x y : Int32} {S : List Value} {Z : gZ} {I : gI} {J : gJ} : g_at 142 367 L (.int y :: .int x :: S) Z I J = if x = y then g_at 142 893 L S Z I J else g_at 142 370 L S Z I J := gq_cmp e_142_367 rfl
set_option maxRecDepth 100000 in
theorem e_142_370 : g_Pg 142 370 = ga_push (.int 0) 371 := (congrFun pg_142 370).trans rfl
theorem q_142_370 {L : List Value} {S : List Value} {Z : gZ} {I : gI} {J : gJ} : g_at 142 370 L S Z I J = g_at 142 371 L (.int 0 :: S) Z I J := gq_push e_142_370
set_option maxRecDepth 100000 in
theorem e_142_371 : g_Pg 142 371 = ga_zret := (congrFun pg_142 371).trans rfl
theorem q_142_371 {L : List Value} {x : Int32} {Z : gZ} {I : gI} {J : gJ} (h : gB01 x = true) : g_at 142 371 L [.int x] Z I J = some (some (.int x), Z, I, J) := gq_zret e_142_371 h
set_option maxRecDepth 100000 in
theorem e_142_372 : g_Pg 142 372 = ga_aload 1 373 := (congrFun pg_142 372).trans rfl
theorem q_142_372 {l0 l2 l3 : Value} {x : Nat} {S : List Value} {Z : gZ} {I : gI} {J : gJ} : g_at 142 372 [l0, .ref x, l2, l3] S Z I J = g_at 142 373 [l0, .ref x, l2, l3] (.ref x :: S) Z I J := gq_aload e_142_372 rfl
set_option maxRecDepth 100000 in
theorem e_142_373 : g_Pg 142 373 = ga_aload 0 374 := (congrFun pg_142 373).trans rfl
theorem q_142_373 {l1 l2 l3 : Value} {x : Nat} {S : List Value} {Z : gZ} {I : gI} {J : gJ} : g_at 142 373 [.ref x, l1, l2, l3] S Z I J = g_at 142 374 [.ref x, l1, l2, l3] (.ref x :: S) Z I J := gq_aload e_142_373 rfl
set_option maxRecDepth 100000 in
theorem e_142_374 : g_Pg 142 374 = ga_iload 3 375 := (congrFun pg_142 374).trans rfl
theorem q_142_374 {l0 l1 l2 : Value} {x : Int32} {S : List Value} {Z : gZ} {I : gI} {J : gJ} : g_at 142 374 [l0, l1, l2, .int x] S Z I J = g_at 142 375 [l0, l1, l2, .int x] (.int x :: S) Z I J := gq_iload e_142_374 rfl
set_option maxRecDepth 100000 in
theorem e_142_375 : g_Pg 142 375 = ga_push (.int 1) 376 := (congrFun pg_142 375).trans rfl
theorem q_142_375 {L : List Value} {S : List Value} {Z : gZ} {I : gI} {J : gJ} : g_at 142 375 L S Z I J = g_at 142 376 L (.int 1 :: S) Z I J := gq_push e_142_375
set_option maxRecDepth 100000 in
theorem e_142_376 : g_Pg 142 376 = ga_bin (fun x y => x + y) 377 := (congrFun pg_142 376).trans rfl
theorem q_142_376 {L : List Value} {x y : Int32} {S : List Value} {Z : gZ} {I : gI} {J : gJ} : g_at 142 376 L (.int y :: .int x :: S) Z I J = g_at 142 377 L (.int (x + y) :: S) Z I J := gq_bin e_142_376
set_option maxRecDepth 100000 in
theorem e_142_377 : g_Pg 142 377 = ga_iald 378 := (congrFun pg_142 377).trans rfl
theorem q_142_377 {L : List Value} {a : Nat} {i : Int32} {S : List Value} {Z : gZ} {I : gI} {J : gJ} (h : gTg8 (gKd Z a).1 a = true) (h0 : 0 ≤ i) (h1 : i.toNatClampNeg < (gKd Z a).2) : g_at 142 377 L (.int i :: .ref a :: S) Z I J = g_at 142 378 L (.int (I a i.toNatClampNeg) :: S) Z I J := gq_iald e_142_377 h h0 h1
set_option maxRecDepth 100000 in
theorem e_142_378 : g_Pg 142 378 = ga_callV 6 62 1 381 := (congrFun pg_142 378).trans rfl
theorem q_142_378 {L : List Value} {a0 : Int32} {a1 : Nat} {Z : gZ} {I : gI} {J : gJ} (h : (gKd Z a1).1 = 6) : g_at 142 378 L [.int a0, .ref a1] Z I J = (g_at 62 0 [.ref a1, .int a0, .null, .null] [] Z I J).bind (fun r => g_at 142 381 L (r.1.toList ++ []) r.2.1 r.2.2.1 r.2.2.2) := gq_callV e_142_378 rfl rfl h rfl rfl rfl rfl rfl
set_option maxRecDepth 100000 in
theorem e_142_381 : g_Pg 142 381 = ga_aload 2 382 := (congrFun pg_142 381).trans rfl
theorem q_142_381 {l0 l1 l3 : Value} {x : Nat} {S : List Value} {Z : gZ} {I : gI} {J : gJ} : g_at 142 381 [l0, l1, .ref x, l3] S Z I J = g_at 142 382 [l0, l1, .ref x, l3] (.ref x :: S) Z I J := gq_aload e_142_381 rfl
set_option maxRecDepth 100000 in
theorem e_142_382 : g_Pg 142 382 = ga_aload 0 383 := (congrFun pg_142 382).trans rfl
theorem q_142_382 {l1 l2 l3 : Value} {x : Nat} {S : List Value} {Z : gZ} {I : gI} {J : gJ} : g_at 142 382 [.ref x, l1, l2, l3] S Z I J = g_at 142 383 [.ref x, l1, l2, l3] (.ref x :: S) Z I J := gq_aload e_142_382 rfl
set_option maxRecDepth 100000 in
theorem e_142_383 : g_Pg 142 383 = ga_iload 3 384 := (congrFun pg_142 383).trans rfl
theorem q_142_383 {l0 l1 l2 : Value} {x : Int32} {S : List Value} {Z : gZ} {I : gI} {J : gJ} : g_at 142 383 [l0, l1, l2, .int x] S Z I J = g_at 142 384 [l0, l1, l2, .int x] (.int x :: S) Z I J := gq_iload e_142_383 rfl
set_option maxRecDepth 100000 in
theorem e_142_384 : g_Pg 142 384 = ga_push (.int 1) 385 := (congrFun pg_142 384).trans rfl
theorem q_142_384 {L : List Value} {S : List Value} {Z : gZ} {I : gI} {J : gJ} : g_at 142 384 L S Z I J = g_at 142 385 L (.int 1 :: S) Z I J := gq_push e_142_384
set_option maxRecDepth 100000 in
theorem e_142_385 : g_Pg 142 385 = ga_bin (fun x y => x + y) 386 := (congrFun pg_142 385).trans rfl
theorem q_142_385 {L : List Value} {x y : Int32} {S : List Value} {Z : gZ} {I : gI} {J : gJ} : g_at 142 385 L (.int y :: .int x :: S) Z I J = g_at 142 386 L (.int (x + y) :: S) Z I J := gq_bin e_142_385
set_option maxRecDepth 100000 in
theorem e_142_386 : g_Pg 142 386 = ga_iald 387 := (congrFun pg_142 386).trans rfl
theorem q_142_386 {L : List Value} {a : Nat} {i : Int32} {S : List Value} {Z : gZ} {I : gI} {J : gJ} (h : gTg8 (gKd Z a).1 a = true) (h0 : 0 ≤ i) (h1 : i.toNatClampNeg < (gKd Z a).2) : g_at 142 386 L (.int i :: .ref a :: S) Z I J = g_at 142 387 L (.int (I a i.toNatClampNeg) :: S) Z I J := gq_iald e_142_386 h h0 h1
set_option maxRecDepth 100000 in
theorem e_142_387 : g_Pg 142 387 = ga_callV 7 107 1 390 := (congrFun pg_142 387).trans rfl
theorem q_142_387 {L : List Value} {a0 : Int32} {a1 : Nat} {r2 : Int32} {Z : gZ} {I : gI} {J : gJ} (h : (gKd Z a1).1 = 7) : g_at 142 387 L [.int a0, .ref a1, .int r2] Z I J = (g_at 107 0 [.ref a1, .int a0, .null, .null] [] Z I J).bind (fun r => g_at 142 390 L (r.1.toList ++ [.int r2]) r.2.1 r.2.2.1 r.2.2.2) := gq_callV e_142_387 rfl rfl h rfl rfl rfl rfl rfl
set_option maxRecDepth 100000 in
theorem e_142_390 : g_Pg 142 390 = ga_cmp (fun x y => decide (x = y)) 893 393 := (congrFun pg_142 390).trans rfl
theorem q_142_390 {L : List Value} {x y : Int32} {S : List Value} {Z : gZ} {I : gI} {J : gJ} : g_at 142 390 L (.int y :: .int x :: S) Z I J = if x = y then g_at 142 893 L S Z I J else g_at 142 393 L S Z I J := gq_cmp e_142_390 rfl
set_option maxRecDepth 100000 in
theorem e_142_393 : g_Pg 142 393 = ga_push (.int 0) 394 := (congrFun pg_142 393).trans rfl
theorem q_142_393 {L : List Value} {S : List Value} {Z : gZ} {I : gI} {J : gJ} : g_at 142 393 L S Z I J = g_at 142 394 L (.int 0 :: S) Z I J := gq_push e_142_393
set_option maxRecDepth 100000 in
theorem e_142_394 : g_Pg 142 394 = ga_zret := (congrFun pg_142 394).trans rfl
theorem q_142_394 {L : List Value} {x : Int32} {Z : gZ} {I : gI} {J : gJ} (h : gB01 x = true) : g_at 142 394 L [.int x] Z I J = some (some (.int x), Z, I, J) := gq_zret e_142_394 h
set_option maxRecDepth 100000 in
theorem e_142_395 : g_Pg 142 395 = ga_aload 1 396 := (congrFun pg_142 395).trans rfl
theorem q_142_395 {l0 l2 l3 : Value} {x : Nat} {S : List Value} {Z : gZ} {I : gI} {J : gJ} : g_at 142 395 [l0, .ref x, l2, l3] S Z I J = g_at 142 396 [l0, .ref x, l2, l3] (.ref x :: S) Z I J := gq_aload e_142_395 rfl
set_option maxRecDepth 100000 in
theorem e_142_396 : g_Pg 142 396 = ga_aload 0 397 := (congrFun pg_142 396).trans rfl
theorem q_142_396 {l1 l2 l3 : Value} {x : Nat} {S : List Value} {Z : gZ} {I : gI} {J : gJ} : g_at 142 396 [.ref x, l1, l2, l3] S Z I J = g_at 142 397 [.ref x, l1, l2, l3] (.ref x :: S) Z I J := gq_aload e_142_396 rfl
set_option maxRecDepth 100000 in
theorem e_142_397 : g_Pg 142 397 = ga_iload 3 398 := (congrFun pg_142 397).trans rfl
theorem q_142_397 {l0 l1 l2 : Value} {x : Int32} {S : List Value} {Z : gZ} {I : gI} {J : gJ} : g_at 142 397 [l0, l1, l2, .int x] S Z I J = g_at 142 398 [l0, l1, l2, .int x] (.int x :: S) Z I J := gq_iload e_142_397 rfl
set_option maxRecDepth 100000 in
theorem e_142_398 : g_Pg 142 398 = ga_push (.int 1) 399 := (congrFun pg_142 398).trans rfl
theorem q_142_398 {L : List Value} {S : List Value} {Z : gZ} {I : gI} {J : gJ} : g_at 142 398 L S Z I J = g_at 142 399 L (.int 1 :: S) Z I J := gq_push e_142_398
set_option maxRecDepth 100000 in
theorem e_142_399 : g_Pg 142 399 = ga_bin (fun x y => x + y) 400 := (congrFun pg_142 399).trans rfl
theorem q_142_399 {L : List Value} {x y : Int32} {S : List Value} {Z : gZ} {I : gI} {J : gJ} : g_at 142 399 L (.int y :: .int x :: S) Z I J = g_at 142 400 L (.int (x + y) :: S) Z I J := gq_bin e_142_399
set_option maxRecDepth 100000 in
theorem e_142_400 : g_Pg 142 400 = ga_iald 401 := (congrFun pg_142 400).trans rfl
theorem q_142_400 {L : List Value} {a : Nat} {i : Int32} {S : List Value} {Z : gZ} {I : gI} {J : gJ} (h : gTg8 (gKd Z a).1 a = true) (h0 : 0 ≤ i) (h1 : i.toNatClampNeg < (gKd Z a).2) : g_at 142 400 L (.int i :: .ref a :: S) Z I J = g_at 142 401 L (.int (I a i.toNatClampNeg) :: S) Z I J := gq_iald e_142_400 h h0 h1
set_option maxRecDepth 100000 in
theorem e_142_401 : g_Pg 142 401 = ga_callV 6 63 1 404 := (congrFun pg_142 401).trans rfl
theorem q_142_401 {L : List Value} {a0 : Int32} {a1 : Nat} {Z : gZ} {I : gI} {J : gJ} (h : (gKd Z a1).1 = 6) : g_at 142 401 L [.int a0, .ref a1] Z I J = (g_at 63 0 [.ref a1, .int a0, .null] [] Z I J).bind (fun r => g_at 142 404 L (r.1.toList ++ []) r.2.1 r.2.2.1 r.2.2.2) := gq_callV e_142_401 rfl rfl h rfl rfl rfl rfl rfl
set_option maxRecDepth 100000 in
theorem e_142_404 : g_Pg 142 404 = ga_aload 2 405 := (congrFun pg_142 404).trans rfl
theorem q_142_404 {l0 l1 l3 : Value} {x : Nat} {S : List Value} {Z : gZ} {I : gI} {J : gJ} : g_at 142 404 [l0, l1, .ref x, l3] S Z I J = g_at 142 405 [l0, l1, .ref x, l3] (.ref x :: S) Z I J := gq_aload e_142_404 rfl
set_option maxRecDepth 100000 in
theorem e_142_405 : g_Pg 142 405 = ga_aload 0 406 := (congrFun pg_142 405).trans rfl
theorem q_142_405 {l1 l2 l3 : Value} {x : Nat} {S : List Value} {Z : gZ} {I : gI} {J : gJ} : g_at 142 405 [.ref x, l1, l2, l3] S Z I J = g_at 142 406 [.ref x, l1, l2, l3] (.ref x :: S) Z I J := gq_aload e_142_405 rfl
set_option maxRecDepth 100000 in
theorem e_142_406 : g_Pg 142 406 = ga_iload 3 407 := (congrFun pg_142 406).trans rfl
theorem q_142_406 {l0 l1 l2 : Value} {x : Int32} {S : List Value} {Z : gZ} {I : gI} {J : gJ} : g_at 142 406 [l0, l1, l2, .int x] S Z I J = g_at 142 407 [l0, l1, l2, .int x] (.int x :: S) Z I J := gq_iload e_142_406 rfl
set_option maxRecDepth 100000 in
theorem e_142_407 : g_Pg 142 407 = ga_push (.int 1) 408 := (congrFun pg_142 407).trans rfl
theorem q_142_407 {L : List Value} {S : List Value} {Z : gZ} {I : gI} {J : gJ} : g_at 142 407 L S Z I J = g_at 142 408 L (.int 1 :: S) Z I J := gq_push e_142_407
set_option maxRecDepth 100000 in
theorem e_142_408 : g_Pg 142 408 = ga_bin (fun x y => x + y) 409 := (congrFun pg_142 408).trans rfl
theorem q_142_408 {L : List Value} {x y : Int32} {S : List Value} {Z : gZ} {I : gI} {J : gJ} : g_at 142 408 L (.int y :: .int x :: S) Z I J = g_at 142 409 L (.int (x + y) :: S) Z I J := gq_bin e_142_408
set_option maxRecDepth 100000 in
theorem e_142_409 : g_Pg 142 409 = ga_iald 410 := (congrFun pg_142 409).trans rfl
theorem q_142_409 {L : List Value} {a : Nat} {i : Int32} {S : List Value} {Z : gZ} {I : gI} {J : gJ} (h : gTg8 (gKd Z a).1 a = true) (h0 : 0 ≤ i) (h1 : i.toNatClampNeg < (gKd Z a).2) : g_at 142 409 L (.int i :: .ref a :: S) Z I J = g_at 142 410 L (.int (I a i.toNatClampNeg) :: S) Z I J := gq_iald e_142_409 h h0 h1
set_option maxRecDepth 100000 in
theorem e_142_410 : g_Pg 142 410 = ga_callV 7 108 1 413 := (congrFun pg_142 410).trans rfl
theorem q_142_410 {L : List Value} {a0 : Int32} {a1 : Nat} {r2 : Int32} {Z : gZ} {I : gI} {J : gJ} (h : (gKd Z a1).1 = 7) : g_at 142 410 L [.int a0, .ref a1, .int r2] Z I J = (g_at 108 0 [.ref a1, .int a0, .null] [] Z I J).bind (fun r => g_at 142 413 L (r.1.toList ++ [.int r2]) r.2.1 r.2.2.1 r.2.2.2) := gq_callV e_142_410 rfl rfl h rfl rfl rfl rfl rfl
set_option maxRecDepth 100000 in
theorem e_142_413 : g_Pg 142 413 = ga_cmp (fun x y => decide (x = y)) 893 416 := (congrFun pg_142 413).trans rfl
theorem q_142_413 {L : List Value} {x y : Int32} {S : List Value} {Z : gZ} {I : gI} {J : gJ} : g_at 142 413 L (.int y :: .int x :: S) Z I J = if x = y then g_at 142 893 L S Z I J else g_at 142 416 L S Z I J := gq_cmp e_142_413 rfl
set_option maxRecDepth 100000 in
theorem e_142_416 : g_Pg 142 416 = ga_push (.int 0) 417 := (congrFun pg_142 416).trans rfl
theorem q_142_416 {L : List Value} {S : List Value} {Z : gZ} {I : gI} {J : gJ} : g_at 142 416 L S Z I J = g_at 142 417 L (.int 0 :: S) Z I J := gq_push e_142_416
set_option maxRecDepth 100000 in
theorem e_142_417 : g_Pg 142 417 = ga_zret := (congrFun pg_142 417).trans rfl
theorem q_142_417 {L : List Value} {x : Int32} {Z : gZ} {I : gI} {J : gJ} (h : gB01 x = true) : g_at 142 417 L [.int x] Z I J = some (some (.int x), Z, I, J) := gq_zret e_142_417 h
set_option maxRecDepth 100000 in
theorem e_142_418 : g_Pg 142 418 = ga_aload 1 419 := (congrFun pg_142 418).trans rfl
theorem q_142_418 {l0 l2 l3 : Value} {x : Nat} {S : List Value} {Z : gZ} {I : gI} {J : gJ} : g_at 142 418 [l0, .ref x, l2, l3] S Z I J = g_at 142 419 [l0, .ref x, l2, l3] (.ref x :: S) Z I J := gq_aload e_142_418 rfl
set_option maxRecDepth 100000 in
theorem e_142_419 : g_Pg 142 419 = ga_aload 0 420 := (congrFun pg_142 419).trans rfl
theorem q_142_419 {l1 l2 l3 : Value} {x : Nat} {S : List Value} {Z : gZ} {I : gI} {J : gJ} : g_at 142 419 [.ref x, l1, l2, l3] S Z I J = g_at 142 420 [.ref x, l1, l2, l3] (.ref x :: S) Z I J := gq_aload e_142_419 rfl
set_option maxRecDepth 100000 in
theorem e_142_420 : g_Pg 142 420 = ga_iload 3 421 := (congrFun pg_142 420).trans rfl
theorem q_142_420 {l0 l1 l2 : Value} {x : Int32} {S : List Value} {Z : gZ} {I : gI} {J : gJ} : g_at 142 420 [l0, l1, l2, .int x] S Z I J = g_at 142 421 [l0, l1, l2, .int x] (.int x :: S) Z I J := gq_iload e_142_420 rfl
set_option maxRecDepth 100000 in
theorem e_142_421 : g_Pg 142 421 = ga_push (.int 1) 422 := (congrFun pg_142 421).trans rfl
theorem q_142_421 {L : List Value} {S : List Value} {Z : gZ} {I : gI} {J : gJ} : g_at 142 421 L S Z I J = g_at 142 422 L (.int 1 :: S) Z I J := gq_push e_142_421
set_option maxRecDepth 100000 in
theorem e_142_422 : g_Pg 142 422 = ga_bin (fun x y => x + y) 423 := (congrFun pg_142 422).trans rfl
theorem q_142_422 {L : List Value} {x y : Int32} {S : List Value} {Z : gZ} {I : gI} {J : gJ} : g_at 142 422 L (.int y :: .int x :: S) Z I J = g_at 142 423 L (.int (x + y) :: S) Z I J := gq_bin e_142_422
set_option maxRecDepth 100000 in
theorem e_142_423 : g_Pg 142 423 = ga_iald 424 := (congrFun pg_142 423).trans rfl
theorem q_142_423 {L : List Value} {a : Nat} {i : Int32} {S : List Value} {Z : gZ} {I : gI} {J : gJ} (h : gTg8 (gKd Z a).1 a = true) (h0 : 0 ≤ i) (h1 : i.toNatClampNeg < (gKd Z a).2) : g_at 142 423 L (.int i :: .ref a :: S) Z I J = g_at 142 424 L (.int (I a i.toNatClampNeg) :: S) Z I J := gq_iald e_142_423 h h0 h1
set_option maxRecDepth 100000 in
theorem e_142_424 : g_Pg 142 424 = ga_callV 6 64 1 427 := (congrFun pg_142 424).trans rfl
theorem q_142_424 {L : List Value} {a0 : Int32} {a1 : Nat} {Z : gZ} {I : gI} {J : gJ} (h : (gKd Z a1).1 = 6) : g_at 142 424 L [.int a0, .ref a1] Z I J = (g_at 64 0 [.ref a1, .int a0] [] Z I J).bind (fun r => g_at 142 427 L (r.1.toList ++ []) r.2.1 r.2.2.1 r.2.2.2) := gq_callV e_142_424 rfl rfl h rfl rfl rfl rfl rfl
set_option maxRecDepth 100000 in
theorem e_142_427 : g_Pg 142 427 = ga_aload 2 428 := (congrFun pg_142 427).trans rfl
theorem q_142_427 {l0 l1 l3 : Value} {x : Nat} {S : List Value} {Z : gZ} {I : gI} {J : gJ} : g_at 142 427 [l0, l1, .ref x, l3] S Z I J = g_at 142 428 [l0, l1, .ref x, l3] (.ref x :: S) Z I J := gq_aload e_142_427 rfl
set_option maxRecDepth 100000 in
theorem e_142_428 : g_Pg 142 428 = ga_aload 0 429 := (congrFun pg_142 428).trans rfl
theorem q_142_428 {l1 l2 l3 : Value} {x : Nat} {S : List Value} {Z : gZ} {I : gI} {J : gJ} : g_at 142 428 [.ref x, l1, l2, l3] S Z I J = g_at 142 429 [.ref x, l1, l2, l3] (.ref x :: S) Z I J := gq_aload e_142_428 rfl
set_option maxRecDepth 100000 in
theorem e_142_429 : g_Pg 142 429 = ga_iload 3 430 := (congrFun pg_142 429).trans rfl
theorem q_142_429 {l0 l1 l2 : Value} {x : Int32} {S : List Value} {Z : gZ} {I : gI} {J : gJ} : g_at 142 429 [l0, l1, l2, .int x] S Z I J = g_at 142 430 [l0, l1, l2, .int x] (.int x :: S) Z I J := gq_iload e_142_429 rfl
set_option maxRecDepth 100000 in
theorem e_142_430 : g_Pg 142 430 = ga_push (.int 1) 431 := (congrFun pg_142 430).trans rfl
theorem q_142_430 {L : List Value} {S : List Value} {Z : gZ} {I : gI} {J : gJ} : g_at 142 430 L S Z I J = g_at 142 431 L (.int 1 :: S) Z I J := gq_push e_142_430
set_option maxRecDepth 100000 in
theorem e_142_431 : g_Pg 142 431 = ga_bin (fun x y => x + y) 432 := (congrFun pg_142 431).trans rfl
theorem q_142_431 {L : List Value} {x y : Int32} {S : List Value} {Z : gZ} {I : gI} {J : gJ} : g_at 142 431 L (.int y :: .int x :: S) Z I J = g_at 142 432 L (.int (x + y) :: S) Z I J := gq_bin e_142_431
set_option maxRecDepth 100000 in
theorem e_142_432 : g_Pg 142 432 = ga_iald 433 := (congrFun pg_142 432).trans rfl
theorem q_142_432 {L : List Value} {a : Nat} {i : Int32} {S : List Value} {Z : gZ} {I : gI} {J : gJ} (h : gTg8 (gKd Z a).1 a = true) (h0 : 0 ≤ i) (h1 : i.toNatClampNeg < (gKd Z a).2) : g_at 142 432 L (.int i :: .ref a :: S) Z I J = g_at 142 433 L (.int (I a i.toNatClampNeg) :: S) Z I J := gq_iald e_142_432 h h0 h1
set_option maxRecDepth 100000 in
theorem e_142_433 : g_Pg 142 433 = ga_callV 7 109 1 436 := (congrFun pg_142 433).trans rfl
theorem q_142_433 {L : List Value} {a0 : Int32} {a1 : Nat} {r2 : Int32} {Z : gZ} {I : gI} {J : gJ} (h : (gKd Z a1).1 = 7) : g_at 142 433 L [.int a0, .ref a1, .int r2] Z I J = (g_at 109 0 [.ref a1, .int a0, .null] [] Z I J).bind (fun r => g_at 142 436 L (r.1.toList ++ [.int r2]) r.2.1 r.2.2.1 r.2.2.2) := gq_callV e_142_433 rfl rfl h rfl rfl rfl rfl rfl
set_option maxRecDepth 100000 in
theorem e_142_436 : g_Pg 142 436 = ga_cmp (fun x y => decide (x = y)) 893 439 := (congrFun pg_142 436).trans rfl
theorem q_142_436 {L : List Value} {x y : Int32} {S : List Value} {Z : gZ} {I : gI} {J : gJ} : g_at 142 436 L (.int y :: .int x :: S) Z I J = if x = y then g_at 142 893 L S Z I J else g_at 142 439 L S Z I J := gq_cmp e_142_436 rfl
set_option maxRecDepth 100000 in
theorem e_142_439 : g_Pg 142 439 = ga_push (.int 0) 440 := (congrFun pg_142 439).trans rfl
theorem q_142_439 {L : List Value} {S : List Value} {Z : gZ} {I : gI} {J : gJ} : g_at 142 439 L S Z I J = g_at 142 440 L (.int 0 :: S) Z I J := gq_push e_142_439
set_option maxRecDepth 100000 in
theorem e_142_440 : g_Pg 142 440 = ga_zret := (congrFun pg_142 440).trans rfl
theorem q_142_440 {L : List Value} {x : Int32} {Z : gZ} {I : gI} {J : gJ} (h : gB01 x = true) : g_at 142 440 L [.int x] Z I J = some (some (.int x), Z, I, J) := gq_zret e_142_440 h
set_option maxRecDepth 100000 in
theorem e_142_441 : g_Pg 142 441 = ga_aload 1 442 := (congrFun pg_142 441).trans rfl
theorem q_142_441 {l0 l2 l3 : Value} {x : Nat} {S : List Value} {Z : gZ} {I : gI} {J : gJ} : g_at 142 441 [l0, .ref x, l2, l3] S Z I J = g_at 142 442 [l0, .ref x, l2, l3] (.ref x :: S) Z I J := gq_aload e_142_441 rfl
set_option maxRecDepth 100000 in
theorem e_142_442 : g_Pg 142 442 = ga_aload 0 443 := (congrFun pg_142 442).trans rfl
theorem q_142_442 {l1 l2 l3 : Value} {x : Nat} {S : List Value} {Z : gZ} {I : gI} {J : gJ} : g_at 142 442 [.ref x, l1, l2, l3] S Z I J = g_at 142 443 [.ref x, l1, l2, l3] (.ref x :: S) Z I J := gq_aload e_142_442 rfl
set_option maxRecDepth 100000 in
theorem e_142_443 : g_Pg 142 443 = ga_iload 3 444 := (congrFun pg_142 443).trans rfl
theorem q_142_443 {l0 l1 l2 : Value} {x : Int32} {S : List Value} {Z : gZ} {I : gI} {J : gJ} : g_at 142 443 [l0, l1, l2, .int x] S Z I J = g_at 142 444 [l0, l1, l2, .int x] (.int x :: S) Z I J := gq_iload e_142_443 rfl
set_option maxRecDepth 100000 in
theorem e_142_444 : g_Pg 142 444 = ga_push (.int 1) 445 := (congrFun pg_142 444).trans rfl
theorem q_142_444 {L : List Value} {S : List Value} {Z : gZ} {I : gI} {J : gJ} : g_at 142 444 L S Z I J = g_at 142 445 L (.int 1 :: S) Z I J := gq_push e_142_444
set_option maxRecDepth 100000 in
theorem e_142_445 : g_Pg 142 445 = ga_bin (fun x y => x + y) 446 := (congrFun pg_142 445).trans rfl
theorem q_142_445 {L : List Value} {x y : Int32} {S : List Value} {Z : gZ} {I : gI} {J : gJ} : g_at 142 445 L (.int y :: .int x :: S) Z I J = g_at 142 446 L (.int (x + y) :: S) Z I J := gq_bin e_142_445
set_option maxRecDepth 100000 in
theorem e_142_446 : g_Pg 142 446 = ga_iald 447 := (congrFun pg_142 446).trans rfl
theorem q_142_446 {L : List Value} {a : Nat} {i : Int32} {S : List Value} {Z : gZ} {I : gI} {J : gJ} (h : gTg8 (gKd Z a).1 a = true) (h0 : 0 ≤ i) (h1 : i.toNatClampNeg < (gKd Z a).2) : g_at 142 446 L (.int i :: .ref a :: S) Z I J = g_at 142 447 L (.int (I a i.toNatClampNeg) :: S) Z I J := gq_iald e_142_446 h h0 h1
set_option maxRecDepth 100000 in
theorem e_142_447 : g_Pg 142 447 = ga_callV 6 65 1 450 := (congrFun pg_142 447).trans rfl
theorem q_142_447 {L : List Value} {a0 : Int32} {a1 : Nat} {Z : gZ} {I : gI} {J : gJ} (h : (gKd Z a1).1 = 6) : g_at 142 447 L [.int a0, .ref a1] Z I J = (g_at 65 0 [.ref a1, .int a0] [] Z I J).bind (fun r => g_at 142 450 L (r.1.toList ++ []) r.2.1 r.2.2.1 r.2.2.2) := gq_callV e_142_447 rfl rfl h rfl rfl rfl rfl rfl
set_option maxRecDepth 100000 in
theorem e_142_450 : g_Pg 142 450 = ga_aload 2 451 := (congrFun pg_142 450).trans rfl
theorem q_142_450 {l0 l1 l3 : Value} {x : Nat} {S : List Value} {Z : gZ} {I : gI} {J : gJ} : g_at 142 450 [l0, l1, .ref x, l3] S Z I J = g_at 142 451 [l0, l1, .ref x, l3] (.ref x :: S) Z I J := gq_aload e_142_450 rfl
set_option maxRecDepth 100000 in
theorem e_142_451 : g_Pg 142 451 = ga_aload 0 452 := (congrFun pg_142 451).trans rfl
theorem q_142_451 {l1 l2 l3 : Value} {x : Nat} {S : List Value} {Z : gZ} {I : gI} {J : gJ} : g_at 142 451 [.ref x, l1, l2, l3] S Z I J = g_at 142 452 [.ref x, l1, l2, l3] (.ref x :: S) Z I J := gq_aload e_142_451 rfl
set_option maxRecDepth 100000 in
theorem e_142_452 : g_Pg 142 452 = ga_iload 3 453 := (congrFun pg_142 452).trans rfl
theorem q_142_452 {l0 l1 l2 : Value} {x : Int32} {S : List Value} {Z : gZ} {I : gI} {J : gJ} : g_at 142 452 [l0, l1, l2, .int x] S Z I J = g_at 142 453 [l0, l1, l2, .int x] (.int x :: S) Z I J := gq_iload e_142_452 rfl
set_option maxRecDepth 100000 in
theorem e_142_453 : g_Pg 142 453 = ga_push (.int 1) 454 := (congrFun pg_142 453).trans rfl
theorem q_142_453 {L : List Value} {S : List Value} {Z : gZ} {I : gI} {J : gJ} : g_at 142 453 L S Z I J = g_at 142 454 L (.int 1 :: S) Z I J := gq_push e_142_453
set_option maxRecDepth 100000 in
theorem e_142_454 : g_Pg 142 454 = ga_bin (fun x y => x + y) 455 := (congrFun pg_142 454).trans rfl
theorem q_142_454 {L : List Value} {x y : Int32} {S : List Value} {Z : gZ} {I : gI} {J : gJ} : g_at 142 454 L (.int y :: .int x :: S) Z I J = g_at 142 455 L (.int (x + y) :: S) Z I J := gq_bin e_142_454
set_option maxRecDepth 100000 in
theorem e_142_455 : g_Pg 142 455 = ga_iald 456 := (congrFun pg_142 455).trans rfl
theorem q_142_455 {L : List Value} {a : Nat} {i : Int32} {S : List Value} {Z : gZ} {I : gI} {J : gJ} (h : gTg8 (gKd Z a).1 a = true) (h0 : 0 ≤ i) (h1 : i.toNatClampNeg < (gKd Z a).2) : g_at 142 455 L (.int i :: .ref a :: S) Z I J = g_at 142 456 L (.int (I a i.toNatClampNeg) :: S) Z I J := gq_iald e_142_455 h h0 h1
set_option maxRecDepth 100000 in
theorem e_142_456 : g_Pg 142 456 = ga_callV 7 110 1 459 := (congrFun pg_142 456).trans rfl
theorem q_142_456 {L : List Value} {a0 : Int32} {a1 : Nat} {r2 : Int32} {Z : gZ} {I : gI} {J : gJ} (h : (gKd Z a1).1 = 7) : g_at 142 456 L [.int a0, .ref a1, .int r2] Z I J = (g_at 110 0 [.ref a1, .int a0, .null] [] Z I J).bind (fun r => g_at 142 459 L (r.1.toList ++ [.int r2]) r.2.1 r.2.2.1 r.2.2.2) := gq_callV e_142_456 rfl rfl h rfl rfl rfl rfl rfl
set_option maxRecDepth 100000 in
theorem e_142_459 : g_Pg 142 459 = ga_cmp (fun x y => decide (x = y)) 893 462 := (congrFun pg_142 459).trans rfl
theorem q_142_459 {L : List Value} {x y : Int32} {S : List Value} {Z : gZ} {I : gI} {J : gJ} : g_at 142 459 L (.int y :: .int x :: S) Z I J = if x = y then g_at 142 893 L S Z I J else g_at 142 462 L S Z I J := gq_cmp e_142_459 rfl
set_option maxRecDepth 100000 in
theorem e_142_462 : g_Pg 142 462 = ga_push (.int 0) 463 := (congrFun pg_142 462).trans rfl
theorem q_142_462 {L : List Value} {S : List Value} {Z : gZ} {I : gI} {J : gJ} : g_at 142 462 L S Z I J = g_at 142 463 L (.int 0 :: S) Z I J := gq_push e_142_462
set_option maxRecDepth 100000 in
theorem e_142_463 : g_Pg 142 463 = ga_zret := (congrFun pg_142 463).trans rfl
theorem q_142_463 {L : List Value} {x : Int32} {Z : gZ} {I : gI} {J : gJ} (h : gB01 x = true) : g_at 142 463 L [.int x] Z I J = some (some (.int x), Z, I, J) := gq_zret e_142_463 h
set_option maxRecDepth 100000 in
theorem e_142_464 : g_Pg 142 464 = ga_aload 1 465 := (congrFun pg_142 464).trans rfl
theorem q_142_464 {l0 l2 l3 : Value} {x : Nat} {S : List Value} {Z : gZ} {I : gI} {J : gJ} : g_at 142 464 [l0, .ref x, l2, l3] S Z I J = g_at 142 465 [l0, .ref x, l2, l3] (.ref x :: S) Z I J := gq_aload e_142_464 rfl
set_option maxRecDepth 100000 in
theorem e_142_465 : g_Pg 142 465 = ga_aload 0 466 := (congrFun pg_142 465).trans rfl
theorem q_142_465 {l1 l2 l3 : Value} {x : Nat} {S : List Value} {Z : gZ} {I : gI} {J : gJ} : g_at 142 465 [.ref x, l1, l2, l3] S Z I J = g_at 142 466 [.ref x, l1, l2, l3] (.ref x :: S) Z I J := gq_aload e_142_465 rfl
set_option maxRecDepth 100000 in
theorem e_142_466 : g_Pg 142 466 = ga_iload 3 467 := (congrFun pg_142 466).trans rfl
theorem q_142_466 {l0 l1 l2 : Value} {x : Int32} {S : List Value} {Z : gZ} {I : gI} {J : gJ} : g_at 142 466 [l0, l1, l2, .int x] S Z I J = g_at 142 467 [l0, l1, l2, .int x] (.int x :: S) Z I J := gq_iload e_142_466 rfl
set_option maxRecDepth 100000 in
theorem e_142_467 : g_Pg 142 467 = ga_push (.int 1) 468 := (congrFun pg_142 467).trans rfl
theorem q_142_467 {L : List Value} {S : List Value} {Z : gZ} {I : gI} {J : gJ} : g_at 142 467 L S Z I J = g_at 142 468 L (.int 1 :: S) Z I J := gq_push e_142_467
set_option maxRecDepth 100000 in
theorem e_142_468 : g_Pg 142 468 = ga_bin (fun x y => x + y) 469 := (congrFun pg_142 468).trans rfl
theorem q_142_468 {L : List Value} {x y : Int32} {S : List Value} {Z : gZ} {I : gI} {J : gJ} : g_at 142 468 L (.int y :: .int x :: S) Z I J = g_at 142 469 L (.int (x + y) :: S) Z I J := gq_bin e_142_468
set_option maxRecDepth 100000 in
theorem e_142_469 : g_Pg 142 469 = ga_iald 470 := (congrFun pg_142 469).trans rfl
theorem q_142_469 {L : List Value} {a : Nat} {i : Int32} {S : List Value} {Z : gZ} {I : gI} {J : gJ} (h : gTg8 (gKd Z a).1 a = true) (h0 : 0 ≤ i) (h1 : i.toNatClampNeg < (gKd Z a).2) : g_at 142 469 L (.int i :: .ref a :: S) Z I J = g_at 142 470 L (.int (I a i.toNatClampNeg) :: S) Z I J := gq_iald e_142_469 h h0 h1
set_option maxRecDepth 100000 in
theorem e_142_470 : g_Pg 142 470 = ga_aload 0 471 := (congrFun pg_142 470).trans rfl
theorem q_142_470 {l1 l2 l3 : Value} {x : Nat} {S : List Value} {Z : gZ} {I : gI} {J : gJ} : g_at 142 470 [.ref x, l1, l2, l3] S Z I J = g_at 142 471 [.ref x, l1, l2, l3] (.ref x :: S) Z I J := gq_aload e_142_470 rfl
set_option maxRecDepth 100000 in
theorem e_142_471 : g_Pg 142 471 = ga_iload 3 472 := (congrFun pg_142 471).trans rfl
theorem q_142_471 {l0 l1 l2 : Value} {x : Int32} {S : List Value} {Z : gZ} {I : gI} {J : gJ} : g_at 142 471 [l0, l1, l2, .int x] S Z I J = g_at 142 472 [l0, l1, l2, .int x] (.int x :: S) Z I J := gq_iload e_142_471 rfl
set_option maxRecDepth 100000 in
theorem e_142_472 : g_Pg 142 472 = ga_push (.int 2) 473 := (congrFun pg_142 472).trans rfl
theorem q_142_472 {L : List Value} {S : List Value} {Z : gZ} {I : gI} {J : gJ} : g_at 142 472 L S Z I J = g_at 142 473 L (.int 2 :: S) Z I J := gq_push e_142_472
set_option maxRecDepth 100000 in
theorem e_142_473 : g_Pg 142 473 = ga_bin (fun x y => x + y) 474 := (congrFun pg_142 473).trans rfl
theorem q_142_473 {L : List Value} {x y : Int32} {S : List Value} {Z : gZ} {I : gI} {J : gJ} : g_at 142 473 L (.int y :: .int x :: S) Z I J = g_at 142 474 L (.int (x + y) :: S) Z I J := gq_bin e_142_473
set_option maxRecDepth 100000 in
theorem e_142_474 : g_Pg 142 474 = ga_iald 475 := (congrFun pg_142 474).trans rfl
theorem q_142_474 {L : List Value} {a : Nat} {i : Int32} {S : List Value} {Z : gZ} {I : gI} {J : gJ} (h : gTg8 (gKd Z a).1 a = true) (h0 : 0 ≤ i) (h1 : i.toNatClampNeg < (gKd Z a).2) : g_at 142 474 L (.int i :: .ref a :: S) Z I J = g_at 142 475 L (.int (I a i.toNatClampNeg) :: S) Z I J := gq_iald e_142_474 h h0 h1
set_option maxRecDepth 100000 in
theorem e_142_475 : g_Pg 142 475 = ga_callV 6 66 2 478 := (congrFun pg_142 475).trans rfl
theorem q_142_475 {L : List Value} {a0 : Int32} {a1 : Int32} {a2 : Nat} {Z : gZ} {I : gI} {J : gJ} (h : (gKd Z a2).1 = 6) : g_at 142 475 L [.int a0, .int a1, .ref a2] Z I J = (g_at 66 0 [.ref a2, .int a1, .int a0] [] Z I J).bind (fun r => g_at 142 478 L (r.1.toList ++ []) r.2.1 r.2.2.1 r.2.2.2) := gq_callV e_142_475 rfl rfl h rfl rfl rfl rfl rfl
set_option maxRecDepth 100000 in
theorem e_142_478 : g_Pg 142 478 = ga_aload 2 479 := (congrFun pg_142 478).trans rfl
theorem q_142_478 {l0 l1 l3 : Value} {x : Nat} {S : List Value} {Z : gZ} {I : gI} {J : gJ} : g_at 142 478 [l0, l1, .ref x, l3] S Z I J = g_at 142 479 [l0, l1, .ref x, l3] (.ref x :: S) Z I J := gq_aload e_142_478 rfl
set_option maxRecDepth 100000 in
theorem e_142_479 : g_Pg 142 479 = ga_aload 0 480 := (congrFun pg_142 479).trans rfl
theorem q_142_479 {l1 l2 l3 : Value} {x : Nat} {S : List Value} {Z : gZ} {I : gI} {J : gJ} : g_at 142 479 [.ref x, l1, l2, l3] S Z I J = g_at 142 480 [.ref x, l1, l2, l3] (.ref x :: S) Z I J := gq_aload e_142_479 rfl
set_option maxRecDepth 100000 in
theorem e_142_480 : g_Pg 142 480 = ga_iload 3 481 := (congrFun pg_142 480).trans rfl
theorem q_142_480 {l0 l1 l2 : Value} {x : Int32} {S : List Value} {Z : gZ} {I : gI} {J : gJ} : g_at 142 480 [l0, l1, l2, .int x] S Z I J = g_at 142 481 [l0, l1, l2, .int x] (.int x :: S) Z I J := gq_iload e_142_480 rfl
set_option maxRecDepth 100000 in
theorem e_142_481 : g_Pg 142 481 = ga_push (.int 1) 482 := (congrFun pg_142 481).trans rfl
theorem q_142_481 {L : List Value} {S : List Value} {Z : gZ} {I : gI} {J : gJ} : g_at 142 481 L S Z I J = g_at 142 482 L (.int 1 :: S) Z I J := gq_push e_142_481
set_option maxRecDepth 100000 in
theorem e_142_482 : g_Pg 142 482 = ga_bin (fun x y => x + y) 483 := (congrFun pg_142 482).trans rfl
theorem q_142_482 {L : List Value} {x y : Int32} {S : List Value} {Z : gZ} {I : gI} {J : gJ} : g_at 142 482 L (.int y :: .int x :: S) Z I J = g_at 142 483 L (.int (x + y) :: S) Z I J := gq_bin e_142_482
set_option maxRecDepth 100000 in
theorem e_142_483 : g_Pg 142 483 = ga_iald 484 := (congrFun pg_142 483).trans rfl
theorem q_142_483 {L : List Value} {a : Nat} {i : Int32} {S : List Value} {Z : gZ} {I : gI} {J : gJ} (h : gTg8 (gKd Z a).1 a = true) (h0 : 0 ≤ i) (h1 : i.toNatClampNeg < (gKd Z a).2) : g_at 142 483 L (.int i :: .ref a :: S) Z I J = g_at 142 484 L (.int (I a i.toNatClampNeg) :: S) Z I J := gq_iald e_142_483 h h0 h1
set_option maxRecDepth 100000 in
theorem e_142_484 : g_Pg 142 484 = ga_aload 0 485 := (congrFun pg_142 484).trans rfl
theorem q_142_484 {l1 l2 l3 : Value} {x : Nat} {S : List Value} {Z : gZ} {I : gI} {J : gJ} : g_at 142 484 [.ref x, l1, l2, l3] S Z I J = g_at 142 485 [.ref x, l1, l2, l3] (.ref x :: S) Z I J := gq_aload e_142_484 rfl
set_option maxRecDepth 100000 in
theorem e_142_485 : g_Pg 142 485 = ga_iload 3 486 := (congrFun pg_142 485).trans rfl
theorem q_142_485 {l0 l1 l2 : Value} {x : Int32} {S : List Value} {Z : gZ} {I : gI} {J : gJ} : g_at 142 485 [l0, l1, l2, .int x] S Z I J = g_at 142 486 [l0, l1, l2, .int x] (.int x :: S) Z I J := gq_iload e_142_485 rfl
set_option maxRecDepth 100000 in
theorem e_142_486 : g_Pg 142 486 = ga_push (.int 2) 487 := (congrFun pg_142 486).trans rfl
theorem q_142_486 {L : List Value} {S : List Value} {Z : gZ} {I : gI} {J : gJ} : g_at 142 486 L S Z I J = g_at 142 487 L (.int 2 :: S) Z I J := gq_push e_142_486
set_option maxRecDepth 100000 in
theorem e_142_487 : g_Pg 142 487 = ga_bin (fun x y => x + y) 488 := (congrFun pg_142 487).trans rfl
theorem q_142_487 {L : List Value} {x y : Int32} {S : List Value} {Z : gZ} {I : gI} {J : gJ} : g_at 142 487 L (.int y :: .int x :: S) Z I J = g_at 142 488 L (.int (x + y) :: S) Z I J := gq_bin e_142_487
set_option maxRecDepth 100000 in
theorem e_142_488 : g_Pg 142 488 = ga_iald 489 := (congrFun pg_142 488).trans rfl
theorem q_142_488 {L : List Value} {a : Nat} {i : Int32} {S : List Value} {Z : gZ} {I : gI} {J : gJ} (h : gTg8 (gKd Z a).1 a = true) (h0 : 0 ≤ i) (h1 : i.toNatClampNeg < (gKd Z a).2) : g_at 142 488 L (.int i :: .ref a :: S) Z I J = g_at 142 489 L (.int (I a i.toNatClampNeg) :: S) Z I J := gq_iald e_142_488 h h0 h1
set_option maxRecDepth 100000 in
theorem e_142_489 : g_Pg 142 489 = ga_callV 7 115 2 492 := (congrFun pg_142 489).trans rfl
theorem q_142_489 {L : List Value} {a0 : Int32} {a1 : Int32} {a2 : Nat} {r3 : Int32} {Z : gZ} {I : gI} {J : gJ} (h : (gKd Z a2).1 = 7) : g_at 142 489 L [.int a0, .int a1, .ref a2, .int r3] Z I J = (g_at 115 0 [.ref a2, .int a1, .int a0] [] Z I J).bind (fun r => g_at 142 492 L (r.1.toList ++ [.int r3]) r.2.1 r.2.2.1 r.2.2.2) := gq_callV e_142_489 rfl rfl h rfl rfl rfl rfl rfl
set_option maxRecDepth 100000 in
theorem e_142_492 : g_Pg 142 492 = ga_cmp (fun x y => decide (x = y)) 893 495 := (congrFun pg_142 492).trans rfl
theorem q_142_492 {L : List Value} {x y : Int32} {S : List Value} {Z : gZ} {I : gI} {J : gJ} : g_at 142 492 L (.int y :: .int x :: S) Z I J = if x = y then g_at 142 893 L S Z I J else g_at 142 495 L S Z I J := gq_cmp e_142_492 rfl
set_option maxRecDepth 100000 in
theorem e_142_495 : g_Pg 142 495 = ga_push (.int 0) 496 := (congrFun pg_142 495).trans rfl
theorem q_142_495 {L : List Value} {S : List Value} {Z : gZ} {I : gI} {J : gJ} : g_at 142 495 L S Z I J = g_at 142 496 L (.int 0 :: S) Z I J := gq_push e_142_495
set_option maxRecDepth 100000 in
theorem e_142_496 : g_Pg 142 496 = ga_zret := (congrFun pg_142 496).trans rfl
theorem q_142_496 {L : List Value} {x : Int32} {Z : gZ} {I : gI} {J : gJ} (h : gB01 x = true) : g_at 142 496 L [.int x] Z I J = some (some (.int x), Z, I, J) := gq_zret e_142_496 h
set_option maxRecDepth 100000 in
theorem e_142_497 : g_Pg 142 497 = ga_aload 1 498 := (congrFun pg_142 497).trans rfl
theorem q_142_497 {l0 l2 l3 : Value} {x : Nat} {S : List Value} {Z : gZ} {I : gI} {J : gJ} : g_at 142 497 [l0, .ref x, l2, l3] S Z I J = g_at 142 498 [l0, .ref x, l2, l3] (.ref x :: S) Z I J := gq_aload e_142_497 rfl
set_option maxRecDepth 100000 in
theorem e_142_498 : g_Pg 142 498 = ga_aload 0 499 := (congrFun pg_142 498).trans rfl
theorem q_142_498 {l1 l2 l3 : Value} {x : Nat} {S : List Value} {Z : gZ} {I : gI} {J : gJ} : g_at 142 498 [.ref x, l1, l2, l3] S Z I J = g_at 142 499 [.ref x, l1, l2, l3] (.ref x :: S) Z I J := gq_aload e_142_498 rfl
set_option maxRecDepth 100000 in
theorem e_142_499 : g_Pg 142 499 = ga_iload 3 500 := (congrFun pg_142 499).trans rfl
theorem q_142_499 {l0 l1 l2 : Value} {x : Int32} {S : List Value} {Z : gZ} {I : gI} {J : gJ} : g_at 142 499 [l0, l1, l2, .int x] S Z I J = g_at 142 500 [l0, l1, l2, .int x] (.int x :: S) Z I J := gq_iload e_142_499 rfl
set_option maxRecDepth 100000 in
theorem e_142_500 : g_Pg 142 500 = ga_push (.int 1) 501 := (congrFun pg_142 500).trans rfl
theorem q_142_500 {L : List Value} {S : List Value} {Z : gZ} {I : gI} {J : gJ} : g_at 142 500 L S Z I J = g_at 142 501 L (.int 1 :: S) Z I J := gq_push e_142_500
set_option maxRecDepth 100000 in
theorem e_142_501 : g_Pg 142 501 = ga_bin (fun x y => x + y) 502 := (congrFun pg_142 501).trans rfl
theorem q_142_501 {L : List Value} {x y : Int32} {S : List Value} {Z : gZ} {I : gI} {J : gJ} : g_at 142 501 L (.int y :: .int x :: S) Z I J = g_at 142 502 L (.int (x + y) :: S) Z I J := gq_bin e_142_501
set_option maxRecDepth 100000 in
theorem e_142_502 : g_Pg 142 502 = ga_iald 503 := (congrFun pg_142 502).trans rfl
theorem q_142_502 {L : List Value} {a : Nat} {i : Int32} {S : List Value} {Z : gZ} {I : gI} {J : gJ} (h : gTg8 (gKd Z a).1 a = true) (h0 : 0 ≤ i) (h1 : i.toNatClampNeg < (gKd Z a).2) : g_at 142 502 L (.int i :: .ref a :: S) Z I J = g_at 142 503 L (.int (I a i.toNatClampNeg) :: S) Z I J := gq_iald e_142_502 h h0 h1
set_option maxRecDepth 100000 in
theorem e_142_503 : g_Pg 142 503 = ga_callV 6 67 1 506 := (congrFun pg_142 503).trans rfl
theorem q_142_503 {L : List Value} {a0 : Int32} {a1 : Nat} {Z : gZ} {I : gI} {J : gJ} (h : (gKd Z a1).1 = 6) : g_at 142 503 L [.int a0, .ref a1] Z I J = (g_at 67 0 [.ref a1, .int a0] [] Z I J).bind (fun r => g_at 142 506 L (r.1.toList ++ []) r.2.1 r.2.2.1 r.2.2.2) := gq_callV e_142_503 rfl rfl h rfl rfl rfl rfl rfl
set_option maxRecDepth 100000 in
theorem e_142_506 : g_Pg 142 506 = ga_aload 2 507 := (congrFun pg_142 506).trans rfl
theorem q_142_506 {l0 l1 l3 : Value} {x : Nat} {S : List Value} {Z : gZ} {I : gI} {J : gJ} : g_at 142 506 [l0, l1, .ref x, l3] S Z I J = g_at 142 507 [l0, l1, .ref x, l3] (.ref x :: S) Z I J := gq_aload e_142_506 rfl
set_option maxRecDepth 100000 in
theorem e_142_507 : g_Pg 142 507 = ga_aload 0 508 := (congrFun pg_142 507).trans rfl
theorem q_142_507 {l1 l2 l3 : Value} {x : Nat} {S : List Value} {Z : gZ} {I : gI} {J : gJ} : g_at 142 507 [.ref x, l1, l2, l3] S Z I J = g_at 142 508 [.ref x, l1, l2, l3] (.ref x :: S) Z I J := gq_aload e_142_507 rfl
set_option maxRecDepth 100000 in
theorem e_142_508 : g_Pg 142 508 = ga_iload 3 509 := (congrFun pg_142 508).trans rfl
theorem q_142_508 {l0 l1 l2 : Value} {x : Int32} {S : List Value} {Z : gZ} {I : gI} {J : gJ} : g_at 142 508 [l0, l1, l2, .int x] S Z I J = g_at 142 509 [l0, l1, l2, .int x] (.int x :: S) Z I J := gq_iload e_142_508 rfl
set_option maxRecDepth 100000 in
theorem e_142_509 : g_Pg 142 509 = ga_push (.int 1) 510 := (congrFun pg_142 509).trans rfl
theorem q_142_509 {L : List Value} {S : List Value} {Z : gZ} {I : gI} {J : gJ} : g_at 142 509 L S Z I J = g_at 142 510 L (.int 1 :: S) Z I J := gq_push e_142_509
set_option maxRecDepth 100000 in
theorem e_142_510 : g_Pg 142 510 = ga_bin (fun x y => x + y) 511 := (congrFun pg_142 510).trans rfl
theorem q_142_510 {L : List Value} {x y : Int32} {S : List Value} {Z : gZ} {I : gI} {J : gJ} : g_at 142 510 L (.int y :: .int x :: S) Z I J = g_at 142 511 L (.int (x + y) :: S) Z I J := gq_bin e_142_510
set_option maxRecDepth 100000 in
theorem e_142_511 : g_Pg 142 511 = ga_iald 512 := (congrFun pg_142 511).trans rfl
theorem q_142_511 {L : List Value} {a : Nat} {i : Int32} {S : List Value} {Z : gZ} {I : gI} {J : gJ} (h : gTg8 (gKd Z a).1 a = true) (h0 : 0 ≤ i) (h1 : i.toNatClampNeg < (gKd Z a).2) : g_at 142 511 L (.int i :: .ref a :: S) Z I J = g_at 142 512 L (.int (I a i.toNatClampNeg) :: S) Z I J := gq_iald e_142_511 h h0 h1
set_option maxRecDepth 100000 in
theorem e_142_512 : g_Pg 142 512 = ga_callV 7 116 1 515 := (congrFun pg_142 512).trans rfl
theorem q_142_512 {L : List Value} {a0 : Int32} {a1 : Nat} {r2 : Int32} {Z : gZ} {I : gI} {J : gJ} (h : (gKd Z a1).1 = 7) : g_at 142 512 L [.int a0, .ref a1, .int r2] Z I J = (g_at 116 0 [.ref a1, .int a0] [] Z I J).bind (fun r => g_at 142 515 L (r.1.toList ++ [.int r2]) r.2.1 r.2.2.1 r.2.2.2) := gq_callV e_142_512 rfl rfl h rfl rfl rfl rfl rfl
set_option maxRecDepth 100000 in
theorem e_142_515 : g_Pg 142 515 = ga_cmp (fun x y => decide (x = y)) 893 518 := (congrFun pg_142 515).trans rfl
theorem q_142_515 {L : List Value} {x y : Int32} {S : List Value} {Z : gZ} {I : gI} {J : gJ} : g_at 142 515 L (.int y :: .int x :: S) Z I J = if x = y then g_at 142 893 L S Z I J else g_at 142 518 L S Z I J := gq_cmp e_142_515 rfl
set_option maxRecDepth 100000 in
theorem e_142_518 : g_Pg 142 518 = ga_push (.int 0) 519 := (congrFun pg_142 518).trans rfl
theorem q_142_518 {L : List Value} {S : List Value} {Z : gZ} {I : gI} {J : gJ} : g_at 142 518 L S Z I J = g_at 142 519 L (.int 0 :: S) Z I J := gq_push e_142_518
set_option maxRecDepth 100000 in
theorem e_142_519 : g_Pg 142 519 = ga_zret := (congrFun pg_142 519).trans rfl
theorem q_142_519 {L : List Value} {x : Int32} {Z : gZ} {I : gI} {J : gJ} (h : gB01 x = true) : g_at 142 519 L [.int x] Z I J = some (some (.int x), Z, I, J) := gq_zret e_142_519 h
set_option maxRecDepth 100000 in
theorem e_142_520 : g_Pg 142 520 = ga_aload 1 521 := (congrFun pg_142 520).trans rfl
theorem q_142_520 {l0 l2 l3 : Value} {x : Nat} {S : List Value} {Z : gZ} {I : gI} {J : gJ} : g_at 142 520 [l0, .ref x, l2, l3] S Z I J = g_at 142 521 [l0, .ref x, l2, l3] (.ref x :: S) Z I J := gq_aload e_142_520 rfl
set_option maxRecDepth 100000 in
theorem e_142_521 : g_Pg 142 521 = ga_aload 0 522 := (congrFun pg_142 521).trans rfl
theorem q_142_521 {l1 l2 l3 : Value} {x : Nat} {S : List Value} {Z : gZ} {I : gI} {J : gJ} : g_at 142 521 [.ref x, l1, l2, l3] S Z I J = g_at 142 522 [.ref x, l1, l2, l3] (.ref x :: S) Z I J := gq_aload e_142_521 rfl
set_option maxRecDepth 100000 in
theorem e_142_522 : g_Pg 142 522 = ga_iload 3 523 := (congrFun pg_142 522).trans rfl
theorem q_142_522 {l0 l1 l2 : Value} {x : Int32} {S : List Value} {Z : gZ} {I : gI} {J : gJ} : g_at 142 522 [l0, l1, l2, .int x] S Z I J = g_at 142 523 [l0, l1, l2, .int x] (.int x :: S) Z I J := gq_iload e_142_522 rfl
set_option maxRecDepth 100000 in
theorem e_142_523 : g_Pg 142 523 = ga_push (.int 1) 524 := (congrFun pg_142 523).trans rfl
theorem q_142_523 {L : List Value} {S : List Value} {Z : gZ} {I : gI} {J : gJ} : g_at 142 523 L S Z I J = g_at 142 524 L (.int 1 :: S) Z I J := gq_push e_142_523
set_option maxRecDepth 100000 in
theorem e_142_524 : g_Pg 142 524 = ga_bin (fun x y => x + y) 525 := (congrFun pg_142 524).trans rfl
theorem q_142_524 {L : List Value} {x y : Int32} {S : List Value} {Z : gZ} {I : gI} {J : gJ} : g_at 142 524 L (.int y :: .int x :: S) Z I J = g_at 142 525 L (.int (x + y) :: S) Z I J := gq_bin e_142_524
set_option maxRecDepth 100000 in
theorem e_142_525 : g_Pg 142 525 = ga_iald 526 := (congrFun pg_142 525).trans rfl
theorem q_142_525 {L : List Value} {a : Nat} {i : Int32} {S : List Value} {Z : gZ} {I : gI} {J : gJ} (h : gTg8 (gKd Z a).1 a = true) (h0 : 0 ≤ i) (h1 : i.toNatClampNeg < (gKd Z a).2) : g_at 142 525 L (.int i :: .ref a :: S) Z I J = g_at 142 526 L (.int (I a i.toNatClampNeg) :: S) Z I J := gq_iald e_142_525 h h0 h1
set_option maxRecDepth 100000 in
theorem e_142_526 : g_Pg 142 526 = ga_callV 6 68 1 529 := (congrFun pg_142 526).trans rfl
theorem q_142_526 {L : List Value} {a0 : Int32} {a1 : Nat} {Z : gZ} {I : gI} {J : gJ} (h : (gKd Z a1).1 = 6) : g_at 142 526 L [.int a0, .ref a1] Z I J = (g_at 68 0 [.ref a1, .int a0] [] Z I J).bind (fun r => g_at 142 529 L (r.1.toList ++ []) r.2.1 r.2.2.1 r.2.2.2) := gq_callV e_142_526 rfl rfl h rfl rfl rfl rfl rfl
set_option maxRecDepth 100000 in
theorem e_142_529 : g_Pg 142 529 = ga_aload 2 530 := (congrFun pg_142 529).trans rfl
theorem q_142_529 {l0 l1 l3 : Value} {x : Nat} {S : List Value} {Z : gZ} {I : gI} {J : gJ} : g_at 142 529 [l0, l1, .ref x, l3] S Z I J = g_at 142 530 [l0, l1, .ref x, l3] (.ref x :: S) Z I J := gq_aload e_142_529 rfl
set_option maxRecDepth 100000 in
theorem e_142_530 : g_Pg 142 530 = ga_aload 0 531 := (congrFun pg_142 530).trans rfl
theorem q_142_530 {l1 l2 l3 : Value} {x : Nat} {S : List Value} {Z : gZ} {I : gI} {J : gJ} : g_at 142 530 [.ref x, l1, l2, l3] S Z I J = g_at 142 531 [.ref x, l1, l2, l3] (.ref x :: S) Z I J := gq_aload e_142_530 rfl
set_option maxRecDepth 100000 in
theorem e_142_531 : g_Pg 142 531 = ga_iload 3 532 := (congrFun pg_142 531).trans rfl
theorem q_142_531 {l0 l1 l2 : Value} {x : Int32} {S : List Value} {Z : gZ} {I : gI} {J : gJ} : g_at 142 531 [l0, l1, l2, .int x] S Z I J = g_at 142 532 [l0, l1, l2, .int x] (.int x :: S) Z I J := gq_iload e_142_531 rfl
set_option maxRecDepth 100000 in
theorem e_142_532 : g_Pg 142 532 = ga_push (.int 1) 533 := (congrFun pg_142 532).trans rfl
theorem q_142_532 {L : List Value} {S : List Value} {Z : gZ} {I : gI} {J : gJ} : g_at 142 532 L S Z I J = g_at 142 533 L (.int 1 :: S) Z I J := gq_push e_142_532
set_option maxRecDepth 100000 in
theorem e_142_533 : g_Pg 142 533 = ga_bin (fun x y => x + y) 534 := (congrFun pg_142 533).trans rfl
theorem q_142_533 {L : List Value} {x y : Int32} {S : List Value} {Z : gZ} {I : gI} {J : gJ} : g_at 142 533 L (.int y :: .int x :: S) Z I J = g_at 142 534 L (.int (x + y) :: S) Z I J := gq_bin e_142_533
set_option maxRecDepth 100000 in
theorem e_142_534 : g_Pg 142 534 = ga_iald 535 := (congrFun pg_142 534).trans rfl
theorem q_142_534 {L : List Value} {a : Nat} {i : Int32} {S : List Value} {Z : gZ} {I : gI} {J : gJ} (h : gTg8 (gKd Z a).1 a = true) (h0 : 0 ≤ i) (h1 : i.toNatClampNeg < (gKd Z a).2) : g_at 142 534 L (.int i :: .ref a :: S) Z I J = g_at 142 535 L (.int (I a i.toNatClampNeg) :: S) Z I J := gq_iald e_142_534 h h0 h1
set_option maxRecDepth 100000 in
theorem e_142_535 : g_Pg 142 535 = ga_callV 7 117 1 538 := (congrFun pg_142 535).trans rfl
theorem q_142_535 {L : List Value} {a0 : Int32} {a1 : Nat} {r2 : Int32} {Z : gZ} {I : gI} {J : gJ} (h : (gKd Z a1).1 = 7) : g_at 142 535 L [.int a0, .ref a1, .int r2] Z I J = (g_at 117 0 [.ref a1, .int a0, .null, .null] [] Z I J).bind (fun r => g_at 142 538 L (r.1.toList ++ [.int r2]) r.2.1 r.2.2.1 r.2.2.2) := gq_callV e_142_535 rfl rfl h rfl rfl rfl rfl rfl
set_option maxRecDepth 100000 in
theorem e_142_538 : g_Pg 142 538 = ga_cmp (fun x y => decide (x = y)) 893 541 := (congrFun pg_142 538).trans rfl
theorem q_142_538 {L : List Value} {x y : Int32} {S : List Value} {Z : gZ} {I : gI} {J : gJ} : g_at 142 538 L (.int y :: .int x :: S) Z I J = if x = y then g_at 142 893 L S Z I J else g_at 142 541 L S Z I J := gq_cmp e_142_538 rfl
set_option maxRecDepth 100000 in
theorem e_142_541 : g_Pg 142 541 = ga_push (.int 0) 542 := (congrFun pg_142 541).trans rfl
theorem q_142_541 {L : List Value} {S : List Value} {Z : gZ} {I : gI} {J : gJ} : g_at 142 541 L S Z I J = g_at 142 542 L (.int 0 :: S) Z I J := gq_push e_142_541
set_option maxRecDepth 100000 in
theorem e_142_542 : g_Pg 142 542 = ga_zret := (congrFun pg_142 542).trans rfl
theorem q_142_542 {L : List Value} {x : Int32} {Z : gZ} {I : gI} {J : gJ} (h : gB01 x = true) : g_at 142 542 L [.int x] Z I J = some (some (.int x), Z, I, J) := gq_zret e_142_542 h
set_option maxRecDepth 100000 in
theorem e_142_543 : g_Pg 142 543 = ga_aload 1 544 := (congrFun pg_142 543).trans rfl
theorem q_142_543 {l0 l2 l3 : Value} {x : Nat} {S : List Value} {Z : gZ} {I : gI} {J : gJ} : g_at 142 543 [l0, .ref x, l2, l3] S Z I J = g_at 142 544 [l0, .ref x, l2, l3] (.ref x :: S) Z I J := gq_aload e_142_543 rfl
set_option maxRecDepth 100000 in
theorem e_142_544 : g_Pg 142 544 = ga_aload 0 545 := (congrFun pg_142 544).trans rfl
theorem q_142_544 {l1 l2 l3 : Value} {x : Nat} {S : List Value} {Z : gZ} {I : gI} {J : gJ} : g_at 142 544 [.ref x, l1, l2, l3] S Z I J = g_at 142 545 [.ref x, l1, l2, l3] (.ref x :: S) Z I J := gq_aload e_142_544 rfl
set_option maxRecDepth 100000 in
theorem e_142_545 : g_Pg 142 545 = ga_iload 3 546 := (congrFun pg_142 545).trans rfl
theorem q_142_545 {l0 l1 l2 : Value} {x : Int32} {S : List Value} {Z : gZ} {I : gI} {J : gJ} : g_at 142 545 [l0, l1, l2, .int x] S Z I J = g_at 142 546 [l0, l1, l2, .int x] (.int x :: S) Z I J := gq_iload e_142_545 rfl
set_option maxRecDepth 100000 in
theorem e_142_546 : g_Pg 142 546 = ga_push (.int 1) 547 := (congrFun pg_142 546).trans rfl
theorem q_142_546 {L : List Value} {S : List Value} {Z : gZ} {I : gI} {J : gJ} : g_at 142 546 L S Z I J = g_at 142 547 L (.int 1 :: S) Z I J := gq_push e_142_546
set_option maxRecDepth 100000 in
theorem e_142_547 : g_Pg 142 547 = ga_bin (fun x y => x + y) 548 := (congrFun pg_142 547).trans rfl
theorem q_142_547 {L : List Value} {x y : Int32} {S : List Value} {Z : gZ} {I : gI} {J : gJ} : g_at 142 547 L (.int y :: .int x :: S) Z I J = g_at 142 548 L (.int (x + y) :: S) Z I J := gq_bin e_142_547
set_option maxRecDepth 100000 in
theorem e_142_548 : g_Pg 142 548 = ga_iald 549 := (congrFun pg_142 548).trans rfl
theorem q_142_548 {L : List Value} {a : Nat} {i : Int32} {S : List Value} {Z : gZ} {I : gI} {J : gJ} (h : gTg8 (gKd Z a).1 a = true) (h0 : 0 ≤ i) (h1 : i.toNatClampNeg < (gKd Z a).2) : g_at 142 548 L (.int i :: .ref a :: S) Z I J = g_at 142 549 L (.int (I a i.toNatClampNeg) :: S) Z I J := gq_iald e_142_548 h h0 h1
set_option maxRecDepth 100000 in
theorem e_142_549 : g_Pg 142 549 = ga_callV 6 69 1 552 := (congrFun pg_142 549).trans rfl
theorem q_142_549 {L : List Value} {a0 : Int32} {a1 : Nat} {Z : gZ} {I : gI} {J : gJ} (h : (gKd Z a1).1 = 6) : g_at 142 549 L [.int a0, .ref a1] Z I J = (g_at 69 0 [.ref a1, .int a0] [] Z I J).bind (fun r => g_at 142 552 L (r.1.toList ++ []) r.2.1 r.2.2.1 r.2.2.2) := gq_callV e_142_549 rfl rfl h rfl rfl rfl rfl rfl
set_option maxRecDepth 100000 in
theorem e_142_552 : g_Pg 142 552 = ga_aload 2 553 := (congrFun pg_142 552).trans rfl
theorem q_142_552 {l0 l1 l3 : Value} {x : Nat} {S : List Value} {Z : gZ} {I : gI} {J : gJ} : g_at 142 552 [l0, l1, .ref x, l3] S Z I J = g_at 142 553 [l0, l1, .ref x, l3] (.ref x :: S) Z I J := gq_aload e_142_552 rfl
set_option maxRecDepth 100000 in
theorem e_142_553 : g_Pg 142 553 = ga_aload 0 554 := (congrFun pg_142 553).trans rfl
theorem q_142_553 {l1 l2 l3 : Value} {x : Nat} {S : List Value} {Z : gZ} {I : gI} {J : gJ} : g_at 142 553 [.ref x, l1, l2, l3] S Z I J = g_at 142 554 [.ref x, l1, l2, l3] (.ref x :: S) Z I J := gq_aload e_142_553 rfl
set_option maxRecDepth 100000 in
theorem e_142_554 : g_Pg 142 554 = ga_iload 3 555 := (congrFun pg_142 554).trans rfl
theorem q_142_554 {l0 l1 l2 : Value} {x : Int32} {S : List Value} {Z : gZ} {I : gI} {J : gJ} : g_at 142 554 [l0, l1, l2, .int x] S Z I J = g_at 142 555 [l0, l1, l2, .int x] (.int x :: S) Z I J := gq_iload e_142_554 rfl
set_option maxRecDepth 100000 in
theorem e_142_555 : g_Pg 142 555 = ga_push (.int 1) 556 := (congrFun pg_142 555).trans rfl
theorem q_142_555 {L : List Value} {S : List Value} {Z : gZ} {I : gI} {J : gJ} : g_at 142 555 L S Z I J = g_at 142 556 L (.int 1 :: S) Z I J := gq_push e_142_555
set_option maxRecDepth 100000 in
theorem e_142_556 : g_Pg 142 556 = ga_bin (fun x y => x + y) 557 := (congrFun pg_142 556).trans rfl
theorem q_142_556 {L : List Value} {x y : Int32} {S : List Value} {Z : gZ} {I : gI} {J : gJ} : g_at 142 556 L (.int y :: .int x :: S) Z I J = g_at 142 557 L (.int (x + y) :: S) Z I J := gq_bin e_142_556
set_option maxRecDepth 100000 in
theorem e_142_557 : g_Pg 142 557 = ga_iald 558 := (congrFun pg_142 557).trans rfl
theorem q_142_557 {L : List Value} {a : Nat} {i : Int32} {S : List Value} {Z : gZ} {I : gI} {J : gJ} (h : gTg8 (gKd Z a).1 a = true) (h0 : 0 ≤ i) (h1 : i.toNatClampNeg < (gKd Z a).2) : g_at 142 557 L (.int i :: .ref a :: S) Z I J = g_at 142 558 L (.int (I a i.toNatClampNeg) :: S) Z I J := gq_iald e_142_557 h h0 h1
set_option maxRecDepth 100000 in
theorem e_142_558 : g_Pg 142 558 = ga_callV 7 118 1 561 := (congrFun pg_142 558).trans rfl
theorem q_142_558 {L : List Value} {a0 : Int32} {a1 : Nat} {r2 : Int32} {Z : gZ} {I : gI} {J : gJ} (h : (gKd Z a1).1 = 7) : g_at 142 558 L [.int a0, .ref a1, .int r2] Z I J = (g_at 118 0 [.ref a1, .int a0] [] Z I J).bind (fun r => g_at 142 561 L (r.1.toList ++ [.int r2]) r.2.1 r.2.2.1 r.2.2.2) := gq_callV e_142_558 rfl rfl h rfl rfl rfl rfl rfl
set_option maxRecDepth 100000 in
theorem e_142_561 : g_Pg 142 561 = ga_cmp (fun x y => decide (x = y)) 893 564 := (congrFun pg_142 561).trans rfl
theorem q_142_561 {L : List Value} {x y : Int32} {S : List Value} {Z : gZ} {I : gI} {J : gJ} : g_at 142 561 L (.int y :: .int x :: S) Z I J = if x = y then g_at 142 893 L S Z I J else g_at 142 564 L S Z I J := gq_cmp e_142_561 rfl
set_option maxRecDepth 100000 in
theorem e_142_564 : g_Pg 142 564 = ga_push (.int 0) 565 := (congrFun pg_142 564).trans rfl
theorem q_142_564 {L : List Value} {S : List Value} {Z : gZ} {I : gI} {J : gJ} : g_at 142 564 L S Z I J = g_at 142 565 L (.int 0 :: S) Z I J := gq_push e_142_564
set_option maxRecDepth 100000 in
theorem e_142_565 : g_Pg 142 565 = ga_zret := (congrFun pg_142 565).trans rfl
theorem q_142_565 {L : List Value} {x : Int32} {Z : gZ} {I : gI} {J : gJ} (h : gB01 x = true) : g_at 142 565 L [.int x] Z I J = some (some (.int x), Z, I, J) := gq_zret e_142_565 h
set_option maxRecDepth 100000 in
theorem e_142_566 : g_Pg 142 566 = ga_aload 1 567 := (congrFun pg_142 566).trans rfl
theorem q_142_566 {l0 l2 l3 : Value} {x : Nat} {S : List Value} {Z : gZ} {I : gI} {J : gJ} : g_at 142 566 [l0, .ref x, l2, l3] S Z I J = g_at 142 567 [l0, .ref x, l2, l3] (.ref x :: S) Z I J := gq_aload e_142_566 rfl
set_option maxRecDepth 100000 in
theorem e_142_567 : g_Pg 142 567 = ga_aload 0 568 := (congrFun pg_142 567).trans rfl
theorem q_142_567 {l1 l2 l3 : Value} {x : Nat} {S : List Value} {Z : gZ} {I : gI} {J : gJ} : g_at 142 567 [.ref x, l1, l2, l3] S Z I J = g_at 142 568 [.ref x, l1, l2, l3] (.ref x :: S) Z I J := gq_aload e_142_567 rfl
set_option maxRecDepth 100000 in
theorem e_142_568 : g_Pg 142 568 = ga_iload 3 569 := (congrFun pg_142 568).trans rfl
theorem q_142_568 {l0 l1 l2 : Value} {x : Int32} {S : List Value} {Z : gZ} {I : gI} {J : gJ} : g_at 142 568 [l0, l1, l2, .int x] S Z I J = g_at 142 569 [l0, l1, l2, .int x] (.int x :: S) Z I J := gq_iload e_142_568 rfl
set_option maxRecDepth 100000 in
theorem e_142_569 : g_Pg 142 569 = ga_push (.int 1) 570 := (congrFun pg_142 569).trans rfl
theorem q_142_569 {L : List Value} {S : List Value} {Z : gZ} {I : gI} {J : gJ} : g_at 142 569 L S Z I J = g_at 142 570 L (.int 1 :: S) Z I J := gq_push e_142_569
set_option maxRecDepth 100000 in
theorem e_142_570 : g_Pg 142 570 = ga_bin (fun x y => x + y) 571 := (congrFun pg_142 570).trans rfl
theorem q_142_570 {L : List Value} {x y : Int32} {S : List Value} {Z : gZ} {I : gI} {J : gJ} : g_at 142 570 L (.int y :: .int x :: S) Z I J = g_at 142 571 L (.int (x + y) :: S) Z I J := gq_bin e_142_570
set_option maxRecDepth 100000 in
theorem e_142_571 : g_Pg 142 571 = ga_iald 572 := (congrFun pg_142 571).trans rfl
theorem q_142_571 {L : List Value} {a : Nat} {i : Int32} {S : List Value} {Z : gZ} {I : gI} {J : gJ} (h : gTg8 (gKd Z a).1 a = true) (h0 : 0 ≤ i) (h1 : i.toNatClampNeg < (gKd Z a).2) : g_at 142 571 L (.int i :: .ref a :: S) Z I J = g_at 142 572 L (.int (I a i.toNatClampNeg) :: S) Z I J := gq_iald e_142_571 h h0 h1
set_option maxRecDepth 100000 in
theorem e_142_572 : g_Pg 142 572 = ga_aload 0 573 := (congrFun pg_142 572).trans rfl
theorem q_142_572 {l1 l2 l3 : Value} {x : Nat} {S : List Value} {Z : gZ} {I : gI} {J : gJ} : g_at 142 572 [.ref x, l1, l2, l3] S Z I J = g_at 142 573 [.ref x, l1, l2, l3] (.ref x :: S) Z I J := gq_aload e_142_572 rfl
set_option maxRecDepth 100000 in
theorem e_142_573 : g_Pg 142 573 = ga_iload 3 574 := (congrFun pg_142 573).trans rfl
theorem q_142_573 {l0 l1 l2 : Value} {x : Int32} {S : List Value} {Z : gZ} {I : gI} {J : gJ} : g_at 142 573 [l0, l1, l2, .int x] S Z I J = g_at 142 574 [l0, l1, l2, .int x] (.int x :: S) Z I J := gq_iload e_142_573 rfl
set_option maxRecDepth 100000 in
theorem e_142_574 : g_Pg 142 574 = ga_push (.int 2) 575 := (congrFun pg_142 574).trans rfl
theorem q_142_574 {L : List Value} {S : List Value} {Z : gZ} {I : gI} {J : gJ} : g_at 142 574 L S Z I J = g_at 142 575 L (.int 2 :: S) Z I J := gq_push e_142_574
set_option maxRecDepth 100000 in
theorem e_142_575 : g_Pg 142 575 = ga_bin (fun x y => x + y) 576 := (congrFun pg_142 575).trans rfl
theorem q_142_575 {L : List Value} {x y : Int32} {S : List Value} {Z : gZ} {I : gI} {J : gJ} : g_at 142 575 L (.int y :: .int x :: S) Z I J = g_at 142 576 L (.int (x + y) :: S) Z I J := gq_bin e_142_575
set_option maxRecDepth 100000 in
theorem e_142_576 : g_Pg 142 576 = ga_iald 577 := (congrFun pg_142 576).trans rfl
theorem q_142_576 {L : List Value} {a : Nat} {i : Int32} {S : List Value} {Z : gZ} {I : gI} {J : gJ} (h : gTg8 (gKd Z a).1 a = true) (h0 : 0 ≤ i) (h1 : i.toNatClampNeg < (gKd Z a).2) : g_at 142 576 L (.int i :: .ref a :: S) Z I J = g_at 142 577 L (.int (I a i.toNatClampNeg) :: S) Z I J := gq_iald e_142_576 h h0 h1
set_option maxRecDepth 100000 in
theorem e_142_577 : g_Pg 142 577 = ga_aload 0 578 := (congrFun pg_142 577).trans rfl
theorem q_142_577 {l1 l2 l3 : Value} {x : Nat} {S : List Value} {Z : gZ} {I : gI} {J : gJ} : g_at 142 577 [.ref x, l1, l2, l3] S Z I J = g_at 142 578 [.ref x, l1, l2, l3] (.ref x :: S) Z I J := gq_aload e_142_577 rfl
set_option maxRecDepth 100000 in
theorem e_142_578 : g_Pg 142 578 = ga_iload 3 579 := (congrFun pg_142 578).trans rfl
theorem q_142_578 {l0 l1 l2 : Value} {x : Int32} {S : List Value} {Z : gZ} {I : gI} {J : gJ} : g_at 142 578 [l0, l1, l2, .int x] S Z I J = g_at 142 579 [l0, l1, l2, .int x] (.int x :: S) Z I J := gq_iload e_142_578 rfl
set_option maxRecDepth 100000 in
theorem e_142_579 : g_Pg 142 579 = ga_push (.int 3) 580 := (congrFun pg_142 579).trans rfl
theorem q_142_579 {L : List Value} {S : List Value} {Z : gZ} {I : gI} {J : gJ} : g_at 142 579 L S Z I J = g_at 142 580 L (.int 3 :: S) Z I J := gq_push e_142_579
set_option maxRecDepth 100000 in
theorem e_142_580 : g_Pg 142 580 = ga_bin (fun x y => x + y) 581 := (congrFun pg_142 580).trans rfl
theorem q_142_580 {L : List Value} {x y : Int32} {S : List Value} {Z : gZ} {I : gI} {J : gJ} : g_at 142 580 L (.int y :: .int x :: S) Z I J = g_at 142 581 L (.int (x + y) :: S) Z I J := gq_bin e_142_580
set_option maxRecDepth 100000 in
theorem e_142_581 : g_Pg 142 581 = ga_iald 582 := (congrFun pg_142 581).trans rfl
theorem q_142_581 {L : List Value} {a : Nat} {i : Int32} {S : List Value} {Z : gZ} {I : gI} {J : gJ} (h : gTg8 (gKd Z a).1 a = true) (h0 : 0 ≤ i) (h1 : i.toNatClampNeg < (gKd Z a).2) : g_at 142 581 L (.int i :: .ref a :: S) Z I J = g_at 142 582 L (.int (I a i.toNatClampNeg) :: S) Z I J := gq_iald e_142_581 h h0 h1
set_option maxRecDepth 100000 in
theorem e_142_582 : g_Pg 142 582 = ga_callV 6 70 3 585 := (congrFun pg_142 582).trans rfl
theorem q_142_582 {L : List Value} {a0 : Int32} {a1 : Int32} {a2 : Int32} {a3 : Nat} {Z : gZ} {I : gI} {J : gJ} (h : (gKd Z a3).1 = 6) : g_at 142 582 L [.int a0, .int a1, .int a2, .ref a3] Z I J = (g_at 70 0 [.ref a3, .int a2, .int a1, .int a0] [] Z I J).bind (fun r => g_at 142 585 L (r.1.toList ++ []) r.2.1 r.2.2.1 r.2.2.2) := gq_callV e_142_582 rfl rfl h rfl rfl rfl rfl rfl
set_option maxRecDepth 100000 in
theorem e_142_585 : g_Pg 142 585 = ga_aload 2 586 := (congrFun pg_142 585).trans rfl
theorem q_142_585 {l0 l1 l3 : Value} {x : Nat} {S : List Value} {Z : gZ} {I : gI} {J : gJ} : g_at 142 585 [l0, l1, .ref x, l3] S Z I J = g_at 142 586 [l0, l1, .ref x, l3] (.ref x :: S) Z I J := gq_aload e_142_585 rfl
set_option maxRecDepth 100000 in
theorem e_142_586 : g_Pg 142 586 = ga_aload 0 587 := (congrFun pg_142 586).trans rfl
theorem q_142_586 {l1 l2 l3 : Value} {x : Nat} {S : List Value} {Z : gZ} {I : gI} {J : gJ} : g_at 142 586 [.ref x, l1, l2, l3] S Z I J = g_at 142 587 [.ref x, l1, l2, l3] (.ref x :: S) Z I J := gq_aload e_142_586 rfl
set_option maxRecDepth 100000 in
theorem e_142_587 : g_Pg 142 587 = ga_iload 3 588 := (congrFun pg_142 587).trans rfl
theorem q_142_587 {l0 l1 l2 : Value} {x : Int32} {S : List Value} {Z : gZ} {I : gI} {J : gJ} : g_at 142 587 [l0, l1, l2, .int x] S Z I J = g_at 142 588 [l0, l1, l2, .int x] (.int x :: S) Z I J := gq_iload e_142_587 rfl
set_option maxRecDepth 100000 in
theorem e_142_588 : g_Pg 142 588 = ga_push (.int 1) 589 := (congrFun pg_142 588).trans rfl
theorem q_142_588 {L : List Value} {S : List Value} {Z : gZ} {I : gI} {J : gJ} : g_at 142 588 L S Z I J = g_at 142 589 L (.int 1 :: S) Z I J := gq_push e_142_588
set_option maxRecDepth 100000 in
theorem e_142_589 : g_Pg 142 589 = ga_bin (fun x y => x + y) 590 := (congrFun pg_142 589).trans rfl
theorem q_142_589 {L : List Value} {x y : Int32} {S : List Value} {Z : gZ} {I : gI} {J : gJ} : g_at 142 589 L (.int y :: .int x :: S) Z I J = g_at 142 590 L (.int (x + y) :: S) Z I J := gq_bin e_142_589
set_option maxRecDepth 100000 in
theorem e_142_590 : g_Pg 142 590 = ga_iald 591 := (congrFun pg_142 590).trans rfl
theorem q_142_590 {L : List Value} {a : Nat} {i : Int32} {S : List Value} {Z : gZ} {I : gI} {J : gJ} (h : gTg8 (gKd Z a).1 a = true) (h0 : 0 ≤ i) (h1 : i.toNatClampNeg < (gKd Z a).2) : g_at 142 590 L (.int i :: .ref a :: S) Z I J = g_at 142 591 L (.int (I a i.toNatClampNeg) :: S) Z I J := gq_iald e_142_590 h h0 h1
set_option maxRecDepth 100000 in
theorem e_142_591 : g_Pg 142 591 = ga_aload 0 592 := (congrFun pg_142 591).trans rfl
theorem q_142_591 {l1 l2 l3 : Value} {x : Nat} {S : List Value} {Z : gZ} {I : gI} {J : gJ} : g_at 142 591 [.ref x, l1, l2, l3] S Z I J = g_at 142 592 [.ref x, l1, l2, l3] (.ref x :: S) Z I J := gq_aload e_142_591 rfl
set_option maxRecDepth 100000 in
theorem e_142_592 : g_Pg 142 592 = ga_iload 3 593 := (congrFun pg_142 592).trans rfl
theorem q_142_592 {l0 l1 l2 : Value} {x : Int32} {S : List Value} {Z : gZ} {I : gI} {J : gJ} : g_at 142 592 [l0, l1, l2, .int x] S Z I J = g_at 142 593 [l0, l1, l2, .int x] (.int x :: S) Z I J := gq_iload e_142_592 rfl
set_option maxRecDepth 100000 in
theorem e_142_593 : g_Pg 142 593 = ga_push (.int 2) 594 := (congrFun pg_142 593).trans rfl
theorem q_142_593 {L : List Value} {S : List Value} {Z : gZ} {I : gI} {J : gJ} : g_at 142 593 L S Z I J = g_at 142 594 L (.int 2 :: S) Z I J := gq_push e_142_593
set_option maxRecDepth 100000 in
theorem e_142_594 : g_Pg 142 594 = ga_bin (fun x y => x + y) 595 := (congrFun pg_142 594).trans rfl
theorem q_142_594 {L : List Value} {x y : Int32} {S : List Value} {Z : gZ} {I : gI} {J : gJ} : g_at 142 594 L (.int y :: .int x :: S) Z I J = g_at 142 595 L (.int (x + y) :: S) Z I J := gq_bin e_142_594
set_option maxRecDepth 100000 in
theorem e_142_595 : g_Pg 142 595 = ga_iald 596 := (congrFun pg_142 595).trans rfl
theorem q_142_595 {L : List Value} {a : Nat} {i : Int32} {S : List Value} {Z : gZ} {I : gI} {J : gJ} (h : gTg8 (gKd Z a).1 a = true) (h0 : 0 ≤ i) (h1 : i.toNatClampNeg < (gKd Z a).2) : g_at 142 595 L (.int i :: .ref a :: S) Z I J = g_at 142 596 L (.int (I a i.toNatClampNeg) :: S) Z I J := gq_iald e_142_595 h h0 h1
set_option maxRecDepth 100000 in
theorem e_142_596 : g_Pg 142 596 = ga_aload 0 597 := (congrFun pg_142 596).trans rfl
theorem q_142_596 {l1 l2 l3 : Value} {x : Nat} {S : List Value} {Z : gZ} {I : gI} {J : gJ} : g_at 142 596 [.ref x, l1, l2, l3] S Z I J = g_at 142 597 [.ref x, l1, l2, l3] (.ref x :: S) Z I J := gq_aload e_142_596 rfl
set_option maxRecDepth 100000 in
theorem e_142_597 : g_Pg 142 597 = ga_iload 3 598 := (congrFun pg_142 597).trans rfl
theorem q_142_597 {l0 l1 l2 : Value} {x : Int32} {S : List Value} {Z : gZ} {I : gI} {J : gJ} : g_at 142 597 [l0, l1, l2, .int x] S Z I J = g_at 142 598 [l0, l1, l2, .int x] (.int x :: S) Z I J := gq_iload e_142_597 rfl
set_option maxRecDepth 100000 in
theorem e_142_598 : g_Pg 142 598 = ga_push (.int 3) 599 := (congrFun pg_142 598).trans rfl
theorem q_142_598 {L : List Value} {S : List Value} {Z : gZ} {I : gI} {J : gJ} : g_at 142 598 L S Z I J = g_at 142 599 L (.int 3 :: S) Z I J := gq_push e_142_598
set_option maxRecDepth 100000 in
theorem e_142_599 : g_Pg 142 599 = ga_bin (fun x y => x + y) 600 := (congrFun pg_142 599).trans rfl
theorem q_142_599 {L : List Value} {x y : Int32} {S : List Value} {Z : gZ} {I : gI} {J : gJ} : g_at 142 599 L (.int y :: .int x :: S) Z I J = g_at 142 600 L (.int (x + y) :: S) Z I J := gq_bin e_142_599
set_option maxRecDepth 100000 in
theorem e_142_600 : g_Pg 142 600 = ga_iald 601 := (congrFun pg_142 600).trans rfl
theorem q_142_600 {L : List Value} {a : Nat} {i : Int32} {S : List Value} {Z : gZ} {I : gI} {J : gJ} (h : gTg8 (gKd Z a).1 a = true) (h0 : 0 ≤ i) (h1 : i.toNatClampNeg < (gKd Z a).2) : g_at 142 600 L (.int i :: .ref a :: S) Z I J = g_at 142 601 L (.int (I a i.toNatClampNeg) :: S) Z I J := gq_iald e_142_600 h h0 h1
set_option maxRecDepth 100000 in
theorem e_142_601 : g_Pg 142 601 = ga_callV 7 119 3 604 := (congrFun pg_142 601).trans rfl
theorem q_142_601 {L : List Value} {a0 : Int32} {a1 : Int32} {a2 : Int32} {a3 : Nat} {r4 : Int32} {Z : gZ} {I : gI} {J : gJ} (h : (gKd Z a3).1 = 7) : g_at 142 601 L [.int a0, .int a1, .int a2, .ref a3, .int r4] Z I J = (g_at 119 0 [.ref a3, .int a2, .int a1, .int a0, .null, .null, .null, .null, .null, .null] [] Z I J).bind (fun r => g_at 142 604 L (r.1.toList ++ [.int r4]) r.2.1 r.2.2.1 r.2.2.2) := gq_callV e_142_601 rfl rfl h rfl rfl rfl rfl rfl
set_option maxRecDepth 100000 in
theorem e_142_604 : g_Pg 142 604 = ga_cmp (fun x y => decide (x = y)) 893 607 := (congrFun pg_142 604).trans rfl
theorem q_142_604 {L : List Value} {x y : Int32} {S : List Value} {Z : gZ} {I : gI} {J : gJ} : g_at 142 604 L (.int y :: .int x :: S) Z I J = if x = y then g_at 142 893 L S Z I J else g_at 142 607 L S Z I J := gq_cmp e_142_604 rfl
set_option maxRecDepth 100000 in
theorem e_142_607 : g_Pg 142 607 = ga_push (.int 0) 608 := (congrFun pg_142 607).trans rfl
theorem q_142_607 {L : List Value} {S : List Value} {Z : gZ} {I : gI} {J : gJ} : g_at 142 607 L S Z I J = g_at 142 608 L (.int 0 :: S) Z I J := gq_push e_142_607
set_option maxRecDepth 100000 in
theorem e_142_608 : g_Pg 142 608 = ga_zret := (congrFun pg_142 608).trans rfl
theorem q_142_608 {L : List Value} {x : Int32} {Z : gZ} {I : gI} {J : gJ} (h : gB01 x = true) : g_at 142 608 L [.int x] Z I J = some (some (.int x), Z, I, J) := gq_zret e_142_608 h
set_option maxRecDepth 100000 in
theorem e_142_609 : g_Pg 142 609 = ga_aload 1 610 := (congrFun pg_142 609).trans rfl
theorem q_142_609 {l0 l2 l3 : Value} {x : Nat} {S : List Value} {Z : gZ} {I : gI} {J : gJ} : g_at 142 609 [l0, .ref x, l2, l3] S Z I J = g_at 142 610 [l0, .ref x, l2, l3] (.ref x :: S) Z I J := gq_aload e_142_609 rfl
set_option maxRecDepth 100000 in
theorem e_142_610 : g_Pg 142 610 = ga_aload 0 611 := (congrFun pg_142 610).trans rfl
theorem q_142_610 {l1 l2 l3 : Value} {x : Nat} {S : List Value} {Z : gZ} {I : gI} {J : gJ} : g_at 142 610 [.ref x, l1, l2, l3] S Z I J = g_at 142 611 [.ref x, l1, l2, l3] (.ref x :: S) Z I J := gq_aload e_142_610 rfl
set_option maxRecDepth 100000 in
theorem e_142_611 : g_Pg 142 611 = ga_iload 3 612 := (congrFun pg_142 611).trans rfl
theorem q_142_611 {l0 l1 l2 : Value} {x : Int32} {S : List Value} {Z : gZ} {I : gI} {J : gJ} : g_at 142 611 [l0, l1, l2, .int x] S Z I J = g_at 142 612 [l0, l1, l2, .int x] (.int x :: S) Z I J := gq_iload e_142_611 rfl
set_option maxRecDepth 100000 in
theorem e_142_612 : g_Pg 142 612 = ga_push (.int 1) 613 := (congrFun pg_142 612).trans rfl
theorem q_142_612 {L : List Value} {S : List Value} {Z : gZ} {I : gI} {J : gJ} : g_at 142 612 L S Z I J = g_at 142 613 L (.int 1 :: S) Z I J := gq_push e_142_612
set_option maxRecDepth 100000 in
theorem e_142_613 : g_Pg 142 613 = ga_bin (fun x y => x + y) 614 := (congrFun pg_142 613).trans rfl
theorem q_142_613 {L : List Value} {x y : Int32} {S : List Value} {Z : gZ} {I : gI} {J : gJ} : g_at 142 613 L (.int y :: .int x :: S) Z I J = g_at 142 614 L (.int (x + y) :: S) Z I J := gq_bin e_142_613
set_option maxRecDepth 100000 in
theorem e_142_614 : g_Pg 142 614 = ga_iald 615 := (congrFun pg_142 614).trans rfl
theorem q_142_614 {L : List Value} {a : Nat} {i : Int32} {S : List Value} {Z : gZ} {I : gI} {J : gJ} (h : gTg8 (gKd Z a).1 a = true) (h0 : 0 ≤ i) (h1 : i.toNatClampNeg < (gKd Z a).2) : g_at 142 614 L (.int i :: .ref a :: S) Z I J = g_at 142 615 L (.int (I a i.toNatClampNeg) :: S) Z I J := gq_iald e_142_614 h h0 h1
set_option maxRecDepth 100000 in
theorem e_142_615 : g_Pg 142 615 = ga_aload 0 616 := (congrFun pg_142 615).trans rfl
theorem q_142_615 {l1 l2 l3 : Value} {x : Nat} {S : List Value} {Z : gZ} {I : gI} {J : gJ} : g_at 142 615 [.ref x, l1, l2, l3] S Z I J = g_at 142 616 [.ref x, l1, l2, l3] (.ref x :: S) Z I J := gq_aload e_142_615 rfl
set_option maxRecDepth 100000 in
theorem e_142_616 : g_Pg 142 616 = ga_iload 3 617 := (congrFun pg_142 616).trans rfl
theorem q_142_616 {l0 l1 l2 : Value} {x : Int32} {S : List Value} {Z : gZ} {I : gI} {J : gJ} : g_at 142 616 [l0, l1, l2, .int x] S Z I J = g_at 142 617 [l0, l1, l2, .int x] (.int x :: S) Z I J := gq_iload e_142_616 rfl
set_option maxRecDepth 100000 in
theorem e_142_617 : g_Pg 142 617 = ga_push (.int 2) 618 := (congrFun pg_142 617).trans rfl
theorem q_142_617 {L : List Value} {S : List Value} {Z : gZ} {I : gI} {J : gJ} : g_at 142 617 L S Z I J = g_at 142 618 L (.int 2 :: S) Z I J := gq_push e_142_617
set_option maxRecDepth 100000 in
theorem e_142_618 : g_Pg 142 618 = ga_bin (fun x y => x + y) 619 := (congrFun pg_142 618).trans rfl
theorem q_142_618 {L : List Value} {x y : Int32} {S : List Value} {Z : gZ} {I : gI} {J : gJ} : g_at 142 618 L (.int y :: .int x :: S) Z I J = g_at 142 619 L (.int (x + y) :: S) Z I J := gq_bin e_142_618
set_option maxRecDepth 100000 in
theorem e_142_619 : g_Pg 142 619 = ga_iald 620 := (congrFun pg_142 619).trans rfl
theorem q_142_619 {L : List Value} {a : Nat} {i : Int32} {S : List Value} {Z : gZ} {I : gI} {J : gJ} (h : gTg8 (gKd Z a).1 a = true) (h0 : 0 ≤ i) (h1 : i.toNatClampNeg < (gKd Z a).2) : g_at 142 619 L (.int i :: .ref a :: S) Z I J = g_at 142 620 L (.int (I a i.toNatClampNeg) :: S) Z I J := gq_iald e_142_619 h h0 h1
set_option maxRecDepth 100000 in
theorem e_142_620 : g_Pg 142 620 = ga_aload 0 621 := (congrFun pg_142 620).trans rfl
theorem q_142_620 {l1 l2 l3 : Value} {x : Nat} {S : List Value} {Z : gZ} {I : gI} {J : gJ} : g_at 142 620 [.ref x, l1, l2, l3] S Z I J = g_at 142 621 [.ref x, l1, l2, l3] (.ref x :: S) Z I J := gq_aload e_142_620 rfl
set_option maxRecDepth 100000 in
theorem e_142_621 : g_Pg 142 621 = ga_iload 3 622 := (congrFun pg_142 621).trans rfl
theorem q_142_621 {l0 l1 l2 : Value} {x : Int32} {S : List Value} {Z : gZ} {I : gI} {J : gJ} : g_at 142 621 [l0, l1, l2, .int x] S Z I J = g_at 142 622 [l0, l1, l2, .int x] (.int x :: S) Z I J := gq_iload e_142_621 rfl
set_option maxRecDepth 100000 in
theorem e_142_622 : g_Pg 142 622 = ga_push (.int 3) 623 := (congrFun pg_142 622).trans rfl
theorem q_142_622 {L : List Value} {S : List Value} {Z : gZ} {I : gI} {J : gJ} : g_at 142 622 L S Z I J = g_at 142 623 L (.int 3 :: S) Z I J := gq_push e_142_622
set_option maxRecDepth 100000 in
theorem e_142_623 : g_Pg 142 623 = ga_bin (fun x y => x + y) 624 := (congrFun pg_142 623).trans rfl
theorem q_142_623 {L : List Value} {x y : Int32} {S : List Value} {Z : gZ} {I : gI} {J : gJ} : g_at 142 623 L (.int y :: .int x :: S) Z I J = g_at 142 624 L (.int (x + y) :: S) Z I J := gq_bin e_142_623
set_option maxRecDepth 100000 in
theorem e_142_624 : g_Pg 142 624 = ga_iald 625 := (congrFun pg_142 624).trans rfl
theorem q_142_624 {L : List Value} {a : Nat} {i : Int32} {S : List Value} {Z : gZ} {I : gI} {J : gJ} (h : gTg8 (gKd Z a).1 a = true) (h0 : 0 ≤ i) (h1 : i.toNatClampNeg < (gKd Z a).2) : g_at 142 624 L (.int i :: .ref a :: S) Z I J = g_at 142 625 L (.int (I a i.toNatClampNeg) :: S) Z I J := gq_iald e_142_624 h h0 h1
set_option maxRecDepth 100000 in
theorem e_142_625 : g_Pg 142 625 = ga_callV 6 71 3 628 := (congrFun pg_142 625).trans rfl
theorem q_142_625 {L : List Value} {a0 : Int32} {a1 : Int32} {a2 : Int32} {a3 : Nat} {Z : gZ} {I : gI} {J : gJ} (h : (gKd Z a3).1 = 6) : g_at 142 625 L [.int a0, .int a1, .int a2, .ref a3] Z I J = (g_at 71 0 [.ref a3, .int a2, .int a1, .int a0] [] Z I J).bind (fun r => g_at 142 628 L (r.1.toList ++ []) r.2.1 r.2.2.1 r.2.2.2) := gq_callV e_142_625 rfl rfl h rfl rfl rfl rfl rfl
set_option maxRecDepth 100000 in
theorem e_142_628 : g_Pg 142 628 = ga_aload 2 629 := (congrFun pg_142 628).trans rfl
theorem q_142_628 {l0 l1 l3 : Value} {x : Nat} {S : List Value} {Z : gZ} {I : gI} {J : gJ} : g_at 142 628 [l0, l1, .ref x, l3] S Z I J = g_at 142 629 [l0, l1, .ref x, l3] (.ref x :: S) Z I J := gq_aload e_142_628 rfl
set_option maxRecDepth 100000 in
theorem e_142_629 : g_Pg 142 629 = ga_aload 0 630 := (congrFun pg_142 629).trans rfl
theorem q_142_629 {l1 l2 l3 : Value} {x : Nat} {S : List Value} {Z : gZ} {I : gI} {J : gJ} : g_at 142 629 [.ref x, l1, l2, l3] S Z I J = g_at 142 630 [.ref x, l1, l2, l3] (.ref x :: S) Z I J := gq_aload e_142_629 rfl
set_option maxRecDepth 100000 in
theorem e_142_630 : g_Pg 142 630 = ga_iload 3 631 := (congrFun pg_142 630).trans rfl
theorem q_142_630 {l0 l1 l2 : Value} {x : Int32} {S : List Value} {Z : gZ} {I : gI} {J : gJ} : g_at 142 630 [l0, l1, l2, .int x] S Z I J = g_at 142 631 [l0, l1, l2, .int x] (.int x :: S) Z I J := gq_iload e_142_630 rfl
set_option maxRecDepth 100000 in
theorem e_142_631 : g_Pg 142 631 = ga_push (.int 1) 632 := (congrFun pg_142 631).trans rfl
theorem q_142_631 {L : List Value} {S : List Value} {Z : gZ} {I : gI} {J : gJ} : g_at 142 631 L S Z I J = g_at 142 632 L (.int 1 :: S) Z I J := gq_push e_142_631
set_option maxRecDepth 100000 in
theorem e_142_632 : g_Pg 142 632 = ga_bin (fun x y => x + y) 633 := (congrFun pg_142 632).trans rfl
theorem q_142_632 {L : List Value} {x y : Int32} {S : List Value} {Z : gZ} {I : gI} {J : gJ} : g_at 142 632 L (.int y :: .int x :: S) Z I J = g_at 142 633 L (.int (x + y) :: S) Z I J := gq_bin e_142_632
set_option maxRecDepth 100000 in
theorem e_142_633 : g_Pg 142 633 = ga_iald 634 := (congrFun pg_142 633).trans rfl
theorem q_142_633 {L : List Value} {a : Nat} {i : Int32} {S : List Value} {Z : gZ} {I : gI} {J : gJ} (h : gTg8 (gKd Z a).1 a = true) (h0 : 0 ≤ i) (h1 : i.toNatClampNeg < (gKd Z a).2) : g_at 142 633 L (.int i :: .ref a :: S) Z I J = g_at 142 634 L (.int (I a i.toNatClampNeg) :: S) Z I J := gq_iald e_142_633 h h0 h1
set_option maxRecDepth 100000 in
theorem e_142_634 : g_Pg 142 634 = ga_aload 0 635 := (congrFun pg_142 634).trans rfl
theorem q_142_634 {l1 l2 l3 : Value} {x : Nat} {S : List Value} {Z : gZ} {I : gI} {J : gJ} : g_at 142 634 [.ref x, l1, l2, l3] S Z I J = g_at 142 635 [.ref x, l1, l2, l3] (.ref x :: S) Z I J := gq_aload e_142_634 rfl
set_option maxRecDepth 100000 in
theorem e_142_635 : g_Pg 142 635 = ga_iload 3 636 := (congrFun pg_142 635).trans rfl
theorem q_142_635 {l0 l1 l2 : Value} {x : Int32} {S : List Value} {Z : gZ} {I : gI} {J : gJ} : g_at 142 635 [l0, l1, l2, .int x] S Z I J = g_at 142 636 [l0, l1, l2, .int x] (.int x :: S) Z I J := gq_iload e_142_635 rfl
set_option maxRecDepth 100000 in
theorem e_142_636 : g_Pg 142 636 = ga_push (.int 2) 637 := (congrFun pg_142 636).trans rfl
theorem q_142_636 {L : List Value} {S : List Value} {Z : gZ} {I : gI} {J : gJ} : g_at 142 636 L S Z I J = g_at 142 637 L (.int 2 :: S) Z I J := gq_push e_142_636
set_option maxRecDepth 100000 in
theorem e_142_637 : g_Pg 142 637 = ga_bin (fun x y => x + y) 638 := (congrFun pg_142 637).trans rfl
theorem q_142_637 {L : List Value} {x y : Int32} {S : List Value} {Z : gZ} {I : gI} {J : gJ} : g_at 142 637 L (.int y :: .int x :: S) Z I J = g_at 142 638 L (.int (x + y) :: S) Z I J := gq_bin e_142_637
set_option maxRecDepth 100000 in
theorem e_142_638 : g_Pg 142 638 = ga_iald 639 := (congrFun pg_142 638).trans rfl
theorem q_142_638 {L : List Value} {a : Nat} {i : Int32} {S : List Value} {Z : gZ} {I : gI} {J : gJ} (h : gTg8 (gKd Z a).1 a = true) (h0 : 0 ≤ i) (h1 : i.toNatClampNeg < (gKd Z a).2) : g_at 142 638 L (.int i :: .ref a :: S) Z I J = g_at 142 639 L (.int (I a i.toNatClampNeg) :: S) Z I J := gq_iald e_142_638 h h0 h1
set_option maxRecDepth 100000 in
theorem e_142_639 : g_Pg 142 639 = ga_aload 0 640 := (congrFun pg_142 639).trans rfl
theorem q_142_639 {l1 l2 l3 : Value} {x : Nat} {S : List Value} {Z : gZ} {I : gI} {J : gJ} : g_at 142 639 [.ref x, l1, l2, l3] S Z I J = g_at 142 640 [.ref x, l1, l2, l3] (.ref x :: S) Z I J := gq_aload e_142_639 rfl
set_option maxRecDepth 100000 in
theorem e_142_640 : g_Pg 142 640 = ga_iload 3 641 := (congrFun pg_142 640).trans rfl
theorem q_142_640 {l0 l1 l2 : Value} {x : Int32} {S : List Value} {Z : gZ} {I : gI} {J : gJ} : g_at 142 640 [l0, l1, l2, .int x] S Z I J = g_at 142 641 [l0, l1, l2, .int x] (.int x :: S) Z I J := gq_iload e_142_640 rfl
set_option maxRecDepth 100000 in
theorem e_142_641 : g_Pg 142 641 = ga_push (.int 3) 642 := (congrFun pg_142 641).trans rfl
theorem q_142_641 {L : List Value} {S : List Value} {Z : gZ} {I : gI} {J : gJ} : g_at 142 641 L S Z I J = g_at 142 642 L (.int 3 :: S) Z I J := gq_push e_142_641
set_option maxRecDepth 100000 in
theorem e_142_642 : g_Pg 142 642 = ga_bin (fun x y => x + y) 643 := (congrFun pg_142 642).trans rfl
theorem q_142_642 {L : List Value} {x y : Int32} {S : List Value} {Z : gZ} {I : gI} {J : gJ} : g_at 142 642 L (.int y :: .int x :: S) Z I J = g_at 142 643 L (.int (x + y) :: S) Z I J := gq_bin e_142_642
set_option maxRecDepth 100000 in
theorem e_142_643 : g_Pg 142 643 = ga_iald 644 := (congrFun pg_142 643).trans rfl
theorem q_142_643 {L : List Value} {a : Nat} {i : Int32} {S : List Value} {Z : gZ} {I : gI} {J : gJ} (h : gTg8 (gKd Z a).1 a = true) (h0 : 0 ≤ i) (h1 : i.toNatClampNeg < (gKd Z a).2) : g_at 142 643 L (.int i :: .ref a :: S) Z I J = g_at 142 644 L (.int (I a i.toNatClampNeg) :: S) Z I J := gq_iald e_142_643 h h0 h1
set_option maxRecDepth 100000 in
theorem e_142_644 : g_Pg 142 644 = ga_callV 7 121 3 647 := (congrFun pg_142 644).trans rfl
theorem q_142_644 {L : List Value} {a0 : Int32} {a1 : Int32} {a2 : Int32} {a3 : Nat} {r4 : Int32} {Z : gZ} {I : gI} {J : gJ} (h : (gKd Z a3).1 = 7) : g_at 142 644 L [.int a0, .int a1, .int a2, .ref a3, .int r4] Z I J = (g_at 121 0 [.ref a3, .int a2, .int a1, .int a0] [] Z I J).bind (fun r => g_at 142 647 L (r.1.toList ++ [.int r4]) r.2.1 r.2.2.1 r.2.2.2) := gq_callV e_142_644 rfl rfl h rfl rfl rfl rfl rfl
set_option maxRecDepth 100000 in
theorem e_142_647 : g_Pg 142 647 = ga_cmp (fun x y => decide (x = y)) 893 650 := (congrFun pg_142 647).trans rfl
theorem q_142_647 {L : List Value} {x y : Int32} {S : List Value} {Z : gZ} {I : gI} {J : gJ} : g_at 142 647 L (.int y :: .int x :: S) Z I J = if x = y then g_at 142 893 L S Z I J else g_at 142 650 L S Z I J := gq_cmp e_142_647 rfl
set_option maxRecDepth 100000 in
theorem e_142_650 : g_Pg 142 650 = ga_push (.int 0) 651 := (congrFun pg_142 650).trans rfl
theorem q_142_650 {L : List Value} {S : List Value} {Z : gZ} {I : gI} {J : gJ} : g_at 142 650 L S Z I J = g_at 142 651 L (.int 0 :: S) Z I J := gq_push e_142_650
set_option maxRecDepth 100000 in
theorem e_142_651 : g_Pg 142 651 = ga_zret := (congrFun pg_142 651).trans rfl
theorem q_142_651 {L : List Value} {x : Int32} {Z : gZ} {I : gI} {J : gJ} (h : gB01 x = true) : g_at 142 651 L [.int x] Z I J = some (some (.int x), Z, I, J) := gq_zret e_142_651 h
set_option maxRecDepth 100000 in
theorem e_142_652 : g_Pg 142 652 = ga_aload 1 653 := (congrFun pg_142 652).trans rfl
theorem q_142_652 {l0 l2 l3 : Value} {x : Nat} {S : List Value} {Z : gZ} {I : gI} {J : gJ} : g_at 142 652 [l0, .ref x, l2, l3] S Z I J = g_at 142 653 [l0, .ref x, l2, l3] (.ref x :: S) Z I J := gq_aload e_142_652 rfl
set_option maxRecDepth 100000 in
theorem e_142_653 : g_Pg 142 653 = ga_aload 0 654 := (congrFun pg_142 653).trans rfl
theorem q_142_653 {l1 l2 l3 : Value} {x : Nat} {S : List Value} {Z : gZ} {I : gI} {J : gJ} : g_at 142 653 [.ref x, l1, l2, l3] S Z I J = g_at 142 654 [.ref x, l1, l2, l3] (.ref x :: S) Z I J := gq_aload e_142_653 rfl
set_option maxRecDepth 100000 in
theorem e_142_654 : g_Pg 142 654 = ga_iload 3 655 := (congrFun pg_142 654).trans rfl
theorem q_142_654 {l0 l1 l2 : Value} {x : Int32} {S : List Value} {Z : gZ} {I : gI} {J : gJ} : g_at 142 654 [l0, l1, l2, .int x] S Z I J = g_at 142 655 [l0, l1, l2, .int x] (.int x :: S) Z I J := gq_iload e_142_654 rfl
set_option maxRecDepth 100000 in
theorem e_142_655 : g_Pg 142 655 = ga_push (.int 1) 656 := (congrFun pg_142 655).trans rfl
theorem q_142_655 {L : List Value} {S : List Value} {Z : gZ} {I : gI} {J : gJ} : g_at 142 655 L S Z I J = g_at 142 656 L (.int 1 :: S) Z I J := gq_push e_142_655
set_option maxRecDepth 100000 in
theorem e_142_656 : g_Pg 142 656 = ga_bin (fun x y => x + y) 657 := (congrFun pg_142 656).trans rfl
theorem q_142_656 {L : List Value} {x y : Int32} {S : List Value} {Z : gZ} {I : gI} {J : gJ} : g_at 142 656 L (.int y :: .int x :: S) Z I J = g_at 142 657 L (.int (x + y) :: S) Z I J := gq_bin e_142_656
set_option maxRecDepth 100000 in
theorem e_142_657 : g_Pg 142 657 = ga_iald 658 := (congrFun pg_142 657).trans rfl
theorem q_142_657 {L : List Value} {a : Nat} {i : Int32} {S : List Value} {Z : gZ} {I : gI} {J : gJ} (h : gTg8 (gKd Z a).1 a = true) (h0 : 0 ≤ i) (h1 : i.toNatClampNeg < (gKd Z a).2) : g_at 142 657 L (.int i :: .ref a :: S) Z I J = g_at 142 658 L (.int (I a i.toNatClampNeg) :: S) Z I J := gq_iald e_142_657 h h0 h1
set_option maxRecDepth 100000 in
theorem e_142_658 : g_Pg 142 658 = ga_aload 0 659 := (congrFun pg_142 658).trans rfl
theorem q_142_658 {l1 l2 l3 : Value} {x : Nat} {S : List Value} {Z : gZ} {I : gI} {J : gJ} : g_at 142 658 [.ref x, l1, l2, l3] S Z I J = g_at 142 659 [.ref x, l1, l2, l3] (.ref x :: S) Z I J := gq_aload e_142_658 rfl
set_option maxRecDepth 100000 in
theorem e_142_659 : g_Pg 142 659 = ga_iload 3 660 := (congrFun pg_142 659).trans rfl
theorem q_142_659 {l0 l1 l2 : Value} {x : Int32} {S : List Value} {Z : gZ} {I : gI} {J : gJ} : g_at 142 659 [l0, l1, l2, .int x] S Z I J = g_at 142 660 [l0, l1, l2, .int x] (.int x :: S) Z I J := gq_iload e_142_659 rfl
set_option maxRecDepth 100000 in
theorem e_142_660 : g_Pg 142 660 = ga_push (.int 2) 661 := (congrFun pg_142 660).trans rfl
theorem q_142_660 {L : List Value} {S : List Value} {Z : gZ} {I : gI} {J : gJ} : g_at 142 660 L S Z I J = g_at 142 661 L (.int 2 :: S) Z I J := gq_push e_142_660
set_option maxRecDepth 100000 in
theorem e_142_661 : g_Pg 142 661 = ga_bin (fun x y => x + y) 662 := (congrFun pg_142 661).trans rfl
theorem q_142_661 {L : List Value} {x y : Int32} {S : List Value} {Z : gZ} {I : gI} {J : gJ} : g_at 142 661 L (.int y :: .int x :: S) Z I J = g_at 142 662 L (.int (x + y) :: S) Z I J := gq_bin e_142_661
set_option maxRecDepth 100000 in
theorem e_142_662 : g_Pg 142 662 = ga_iald 663 := (congrFun pg_142 662).trans rfl
theorem q_142_662 {L : List Value} {a : Nat} {i : Int32} {S : List Value} {Z : gZ} {I : gI} {J : gJ} (h : gTg8 (gKd Z a).1 a = true) (h0 : 0 ≤ i) (h1 : i.toNatClampNeg < (gKd Z a).2) : g_at 142 662 L (.int i :: .ref a :: S) Z I J = g_at 142 663 L (.int (I a i.toNatClampNeg) :: S) Z I J := gq_iald e_142_662 h h0 h1
set_option maxRecDepth 100000 in
theorem e_142_663 : g_Pg 142 663 = ga_aload 0 664 := (congrFun pg_142 663).trans rfl
theorem q_142_663 {l1 l2 l3 : Value} {x : Nat} {S : List Value} {Z : gZ} {I : gI} {J : gJ} : g_at 142 663 [.ref x, l1, l2, l3] S Z I J = g_at 142 664 [.ref x, l1, l2, l3] (.ref x :: S) Z I J := gq_aload e_142_663 rfl
set_option maxRecDepth 100000 in
theorem e_142_664 : g_Pg 142 664 = ga_iload 3 665 := (congrFun pg_142 664).trans rfl
theorem q_142_664 {l0 l1 l2 : Value} {x : Int32} {S : List Value} {Z : gZ} {I : gI} {J : gJ} : g_at 142 664 [l0, l1, l2, .int x] S Z I J = g_at 142 665 [l0, l1, l2, .int x] (.int x :: S) Z I J := gq_iload e_142_664 rfl
set_option maxRecDepth 100000 in
theorem e_142_665 : g_Pg 142 665 = ga_push (.int 3) 666 := (congrFun pg_142 665).trans rfl
theorem q_142_665 {L : List Value} {S : List Value} {Z : gZ} {I : gI} {J : gJ} : g_at 142 665 L S Z I J = g_at 142 666 L (.int 3 :: S) Z I J := gq_push e_142_665
set_option maxRecDepth 100000 in
theorem e_142_666 : g_Pg 142 666 = ga_bin (fun x y => x + y) 667 := (congrFun pg_142 666).trans rfl
theorem q_142_666 {L : List Value} {x y : Int32} {S : List Value} {Z : gZ} {I : gI} {J : gJ} : g_at 142 666 L (.int y :: .int x :: S) Z I J = g_at 142 667 L (.int (x + y) :: S) Z I J := gq_bin e_142_666
set_option maxRecDepth 100000 in
theorem e_142_667 : g_Pg 142 667 = ga_iald 668 := (congrFun pg_142 667).trans rfl
theorem q_142_667 {L : List Value} {a : Nat} {i : Int32} {S : List Value} {Z : gZ} {I : gI} {J : gJ} (h : gTg8 (gKd Z a).1 a = true) (h0 : 0 ≤ i) (h1 : i.toNatClampNeg < (gKd Z a).2) : g_at 142 667 L (.int i :: .ref a :: S) Z I J = g_at 142 668 L (.int (I a i.toNatClampNeg) :: S) Z I J := gq_iald e_142_667 h h0 h1
set_option maxRecDepth 100000 in
theorem e_142_668 : g_Pg 142 668 = ga_aload 0 669 := (congrFun pg_142 668).trans rfl
theorem q_142_668 {l1 l2 l3 : Value} {x : Nat} {S : List Value} {Z : gZ} {I : gI} {J : gJ} : g_at 142 668 [.ref x, l1, l2, l3] S Z I J = g_at 142 669 [.ref x, l1, l2, l3] (.ref x :: S) Z I J := gq_aload e_142_668 rfl
set_option maxRecDepth 100000 in
theorem e_142_669 : g_Pg 142 669 = ga_iload 3 670 := (congrFun pg_142 669).trans rfl
theorem q_142_669 {l0 l1 l2 : Value} {x : Int32} {S : List Value} {Z : gZ} {I : gI} {J : gJ} : g_at 142 669 [l0, l1, l2, .int x] S Z I J = g_at 142 670 [l0, l1, l2, .int x] (.int x :: S) Z I J := gq_iload e_142_669 rfl
set_option maxRecDepth 100000 in
theorem e_142_670 : g_Pg 142 670 = ga_push (.int 4) 671 := (congrFun pg_142 670).trans rfl
theorem q_142_670 {L : List Value} {S : List Value} {Z : gZ} {I : gI} {J : gJ} : g_at 142 670 L S Z I J = g_at 142 671 L (.int 4 :: S) Z I J := gq_push e_142_670
set_option maxRecDepth 100000 in
theorem e_142_671 : g_Pg 142 671 = ga_bin (fun x y => x + y) 672 := (congrFun pg_142 671).trans rfl
theorem q_142_671 {L : List Value} {x y : Int32} {S : List Value} {Z : gZ} {I : gI} {J : gJ} : g_at 142 671 L (.int y :: .int x :: S) Z I J = g_at 142 672 L (.int (x + y) :: S) Z I J := gq_bin e_142_671
set_option maxRecDepth 100000 in
theorem e_142_672 : g_Pg 142 672 = ga_iald 673 := (congrFun pg_142 672).trans rfl
theorem q_142_672 {L : List Value} {a : Nat} {i : Int32} {S : List Value} {Z : gZ} {I : gI} {J : gJ} (h : gTg8 (gKd Z a).1 a = true) (h0 : 0 ≤ i) (h1 : i.toNatClampNeg < (gKd Z a).2) : g_at 142 672 L (.int i :: .ref a :: S) Z I J = g_at 142 673 L (.int (I a i.toNatClampNeg) :: S) Z I J := gq_iald e_142_672 h h0 h1
set_option maxRecDepth 100000 in
theorem e_142_673 : g_Pg 142 673 = ga_callV 6 72 4 676 := (congrFun pg_142 673).trans rfl
theorem q_142_673 {L : List Value} {a0 : Int32} {a1 : Int32} {a2 : Int32} {a3 : Int32} {a4 : Nat} {Z : gZ} {I : gI} {J : gJ} (h : (gKd Z a4).1 = 6) : g_at 142 673 L [.int a0, .int a1, .int a2, .int a3, .ref a4] Z I J = (g_at 72 0 [.ref a4, .int a3, .int a2, .int a1, .int a0, .null] [] Z I J).bind (fun r => g_at 142 676 L (r.1.toList ++ []) r.2.1 r.2.2.1 r.2.2.2) := gq_callV e_142_673 rfl rfl h rfl rfl rfl rfl rfl
set_option maxRecDepth 100000 in
theorem e_142_676 : g_Pg 142 676 = ga_aload 2 677 := (congrFun pg_142 676).trans rfl
theorem q_142_676 {l0 l1 l3 : Value} {x : Nat} {S : List Value} {Z : gZ} {I : gI} {J : gJ} : g_at 142 676 [l0, l1, .ref x, l3] S Z I J = g_at 142 677 [l0, l1, .ref x, l3] (.ref x :: S) Z I J := gq_aload e_142_676 rfl
set_option maxRecDepth 100000 in
theorem e_142_677 : g_Pg 142 677 = ga_aload 0 678 := (congrFun pg_142 677).trans rfl
theorem q_142_677 {l1 l2 l3 : Value} {x : Nat} {S : List Value} {Z : gZ} {I : gI} {J : gJ} : g_at 142 677 [.ref x, l1, l2, l3] S Z I J = g_at 142 678 [.ref x, l1, l2, l3] (.ref x :: S) Z I J := gq_aload e_142_677 rfl
set_option maxRecDepth 100000 in
theorem e_142_678 : g_Pg 142 678 = ga_iload 3 679 := (congrFun pg_142 678).trans rfl
theorem q_142_678 {l0 l1 l2 : Value} {x : Int32} {S : List Value} {Z : gZ} {I : gI} {J : gJ} : g_at 142 678 [l0, l1, l2, .int x] S Z I J = g_at 142 679 [l0, l1, l2, .int x] (.int x :: S) Z I J := gq_iload e_142_678 rfl
set_option maxRecDepth 100000 in
theorem e_142_679 : g_Pg 142 679 = ga_push (.int 1) 680 := (congrFun pg_142 679).trans rfl
theorem q_142_679 {L : List Value} {S : List Value} {Z : gZ} {I : gI} {J : gJ} : g_at 142 679 L S Z I J = g_at 142 680 L (.int 1 :: S) Z I J := gq_push e_142_679
set_option maxRecDepth 100000 in
theorem e_142_680 : g_Pg 142 680 = ga_bin (fun x y => x + y) 681 := (congrFun pg_142 680).trans rfl
theorem q_142_680 {L : List Value} {x y : Int32} {S : List Value} {Z : gZ} {I : gI} {J : gJ} : g_at 142 680 L (.int y :: .int x :: S) Z I J = g_at 142 681 L (.int (x + y) :: S) Z I J := gq_bin e_142_680
set_option maxRecDepth 100000 in
theorem e_142_681 : g_Pg 142 681 = ga_iald 682 := (congrFun pg_142 681).trans rfl
theorem q_142_681 {L : List Value} {a : Nat} {i : Int32} {S : List Value} {Z : gZ} {I : gI} {J : gJ} (h : gTg8 (gKd Z a).1 a = true) (h0 : 0 ≤ i) (h1 : i.toNatClampNeg < (gKd Z a).2) : g_at 142 681 L (.int i :: .ref a :: S) Z I J = g_at 142 682 L (.int (I a i.toNatClampNeg) :: S) Z I J := gq_iald e_142_681 h h0 h1
set_option maxRecDepth 100000 in
theorem e_142_682 : g_Pg 142 682 = ga_aload 0 683 := (congrFun pg_142 682).trans rfl
theorem q_142_682 {l1 l2 l3 : Value} {x : Nat} {S : List Value} {Z : gZ} {I : gI} {J : gJ} : g_at 142 682 [.ref x, l1, l2, l3] S Z I J = g_at 142 683 [.ref x, l1, l2, l3] (.ref x :: S) Z I J := gq_aload e_142_682 rfl
set_option maxRecDepth 100000 in
theorem e_142_683 : g_Pg 142 683 = ga_iload 3 684 := (congrFun pg_142 683).trans rfl
theorem q_142_683 {l0 l1 l2 : Value} {x : Int32} {S : List Value} {Z : gZ} {I : gI} {J : gJ} : g_at 142 683 [l0, l1, l2, .int x] S Z I J = g_at 142 684 [l0, l1, l2, .int x] (.int x :: S) Z I J := gq_iload e_142_683 rfl
set_option maxRecDepth 100000 in
theorem e_142_684 : g_Pg 142 684 = ga_push (.int 2) 685 := (congrFun pg_142 684).trans rfl
theorem q_142_684 {L : List Value} {S : List Value} {Z : gZ} {I : gI} {J : gJ} : g_at 142 684 L S Z I J = g_at 142 685 L (.int 2 :: S) Z I J := gq_push e_142_684
set_option maxRecDepth 100000 in
theorem e_142_685 : g_Pg 142 685 = ga_bin (fun x y => x + y) 686 := (congrFun pg_142 685).trans rfl
theorem q_142_685 {L : List Value} {x y : Int32} {S : List Value} {Z : gZ} {I : gI} {J : gJ} : g_at 142 685 L (.int y :: .int x :: S) Z I J = g_at 142 686 L (.int (x + y) :: S) Z I J := gq_bin e_142_685
set_option maxRecDepth 100000 in
theorem e_142_686 : g_Pg 142 686 = ga_iald 687 := (congrFun pg_142 686).trans rfl
theorem q_142_686 {L : List Value} {a : Nat} {i : Int32} {S : List Value} {Z : gZ} {I : gI} {J : gJ} (h : gTg8 (gKd Z a).1 a = true) (h0 : 0 ≤ i) (h1 : i.toNatClampNeg < (gKd Z a).2) : g_at 142 686 L (.int i :: .ref a :: S) Z I J = g_at 142 687 L (.int (I a i.toNatClampNeg) :: S) Z I J := gq_iald e_142_686 h h0 h1
set_option maxRecDepth 100000 in
theorem e_142_687 : g_Pg 142 687 = ga_aload 0 688 := (congrFun pg_142 687).trans rfl
theorem q_142_687 {l1 l2 l3 : Value} {x : Nat} {S : List Value} {Z : gZ} {I : gI} {J : gJ} : g_at 142 687 [.ref x, l1, l2, l3] S Z I J = g_at 142 688 [.ref x, l1, l2, l3] (.ref x :: S) Z I J := gq_aload e_142_687 rfl
set_option maxRecDepth 100000 in
theorem e_142_688 : g_Pg 142 688 = ga_iload 3 689 := (congrFun pg_142 688).trans rfl
theorem q_142_688 {l0 l1 l2 : Value} {x : Int32} {S : List Value} {Z : gZ} {I : gI} {J : gJ} : g_at 142 688 [l0, l1, l2, .int x] S Z I J = g_at 142 689 [l0, l1, l2, .int x] (.int x :: S) Z I J := gq_iload e_142_688 rfl
set_option maxRecDepth 100000 in
theorem e_142_689 : g_Pg 142 689 = ga_push (.int 3) 690 := (congrFun pg_142 689).trans rfl
theorem q_142_689 {L : List Value} {S : List Value} {Z : gZ} {I : gI} {J : gJ} : g_at 142 689 L S Z I J = g_at 142 690 L (.int 3 :: S) Z I J := gq_push e_142_689
set_option maxRecDepth 100000 in
theorem e_142_690 : g_Pg 142 690 = ga_bin (fun x y => x + y) 691 := (congrFun pg_142 690).trans rfl
theorem q_142_690 {L : List Value} {x y : Int32} {S : List Value} {Z : gZ} {I : gI} {J : gJ} : g_at 142 690 L (.int y :: .int x :: S) Z I J = g_at 142 691 L (.int (x + y) :: S) Z I J := gq_bin e_142_690
set_option maxRecDepth 100000 in
theorem e_142_691 : g_Pg 142 691 = ga_iald 692 := (congrFun pg_142 691).trans rfl
theorem q_142_691 {L : List Value} {a : Nat} {i : Int32} {S : List Value} {Z : gZ} {I : gI} {J : gJ} (h : gTg8 (gKd Z a).1 a = true) (h0 : 0 ≤ i) (h1 : i.toNatClampNeg < (gKd Z a).2) : g_at 142 691 L (.int i :: .ref a :: S) Z I J = g_at 142 692 L (.int (I a i.toNatClampNeg) :: S) Z I J := gq_iald e_142_691 h h0 h1
set_option maxRecDepth 100000 in
theorem e_142_692 : g_Pg 142 692 = ga_aload 0 693 := (congrFun pg_142 692).trans rfl
theorem q_142_692 {l1 l2 l3 : Value} {x : Nat} {S : List Value} {Z : gZ} {I : gI} {J : gJ} : g_at 142 692 [.ref x, l1, l2, l3] S Z I J = g_at 142 693 [.ref x, l1, l2, l3] (.ref x :: S) Z I J := gq_aload e_142_692 rfl
set_option maxRecDepth 100000 in
theorem e_142_693 : g_Pg 142 693 = ga_iload 3 694 := (congrFun pg_142 693).trans rfl
theorem q_142_693 {l0 l1 l2 : Value} {x : Int32} {S : List Value} {Z : gZ} {I : gI} {J : gJ} : g_at 142 693 [l0, l1, l2, .int x] S Z I J = g_at 142 694 [l0, l1, l2, .int x] (.int x :: S) Z I J := gq_iload e_142_693 rfl
set_option maxRecDepth 100000 in
theorem e_142_694 : g_Pg 142 694 = ga_push (.int 4) 695 := (congrFun pg_142 694).trans rfl
theorem q_142_694 {L : List Value} {S : List Value} {Z : gZ} {I : gI} {J : gJ} : g_at 142 694 L S Z I J = g_at 142 695 L (.int 4 :: S) Z I J := gq_push e_142_694
set_option maxRecDepth 100000 in
theorem e_142_695 : g_Pg 142 695 = ga_bin (fun x y => x + y) 696 := (congrFun pg_142 695).trans rfl
theorem q_142_695 {L : List Value} {x y : Int32} {S : List Value} {Z : gZ} {I : gI} {J : gJ} : g_at 142 695 L (.int y :: .int x :: S) Z I J = g_at 142 696 L (.int (x + y) :: S) Z I J := gq_bin e_142_695
set_option maxRecDepth 100000 in
theorem e_142_696 : g_Pg 142 696 = ga_iald 697 := (congrFun pg_142 696).trans rfl
theorem q_142_696 {L : List Value} {a : Nat} {i : Int32} {S : List Value} {Z : gZ} {I : gI} {J : gJ} (h : gTg8 (gKd Z a).1 a = true) (h0 : 0 ≤ i) (h1 : i.toNatClampNeg < (gKd Z a).2) : g_at 142 696 L (.int i :: .ref a :: S) Z I J = g_at 142 697 L (.int (I a i.toNatClampNeg) :: S) Z I J := gq_iald e_142_696 h h0 h1
set_option maxRecDepth 100000 in
theorem e_142_697 : g_Pg 142 697 = ga_callV 7 123 4 700 := (congrFun pg_142 697).trans rfl
theorem q_142_697 {L : List Value} {a0 : Int32} {a1 : Int32} {a2 : Int32} {a3 : Int32} {a4 : Nat} {r5 : Int32} {Z : gZ} {I : gI} {J : gJ} (h : (gKd Z a4).1 = 7) : g_at 142 697 L [.int a0, .int a1, .int a2, .int a3, .ref a4, .int r5] Z I J = (g_at 123 0 [.ref a4, .int a3, .int a2, .int a1, .int a0, .null, .null, .null, .null, .null, .null] [] Z I J).bind (fun r => g_at 142 700 L (r.1.toList ++ [.int r5]) r.2.1 r.2.2.1 r.2.2.2) := gq_callV e_142_697 rfl rfl h rfl rfl rfl rfl rfl
set_option maxRecDepth 100000 in
theorem e_142_700 : g_Pg 142 700 = ga_cmp (fun x y => decide (x = y)) 893 703 := (congrFun pg_142 700).trans rfl
theorem q_142_700 {L : List Value} {x y : Int32} {S : List Value} {Z : gZ} {I : gI} {J : gJ} : g_at 142 700 L (.int y :: .int x :: S) Z I J = if x = y then g_at 142 893 L S Z I J else g_at 142 703 L S Z I J := gq_cmp e_142_700 rfl
set_option maxRecDepth 100000 in
theorem e_142_703 : g_Pg 142 703 = ga_push (.int 0) 704 := (congrFun pg_142 703).trans rfl
theorem q_142_703 {L : List Value} {S : List Value} {Z : gZ} {I : gI} {J : gJ} : g_at 142 703 L S Z I J = g_at 142 704 L (.int 0 :: S) Z I J := gq_push e_142_703
set_option maxRecDepth 100000 in
theorem e_142_704 : g_Pg 142 704 = ga_zret := (congrFun pg_142 704).trans rfl
theorem q_142_704 {L : List Value} {x : Int32} {Z : gZ} {I : gI} {J : gJ} (h : gB01 x = true) : g_at 142 704 L [.int x] Z I J = some (some (.int x), Z, I, J) := gq_zret e_142_704 h
set_option maxRecDepth 100000 in
theorem e_142_705 : g_Pg 142 705 = ga_aload 1 706 := (congrFun pg_142 705).trans rfl
theorem q_142_705 {l0 l2 l3 : Value} {x : Nat} {S : List Value} {Z : gZ} {I : gI} {J : gJ} : g_at 142 705 [l0, .ref x, l2, l3] S Z I J = g_at 142 706 [l0, .ref x, l2, l3] (.ref x :: S) Z I J := gq_aload e_142_705 rfl
set_option maxRecDepth 100000 in
theorem e_142_706 : g_Pg 142 706 = ga_aload 0 707 := (congrFun pg_142 706).trans rfl
theorem q_142_706 {l1 l2 l3 : Value} {x : Nat} {S : List Value} {Z : gZ} {I : gI} {J : gJ} : g_at 142 706 [.ref x, l1, l2, l3] S Z I J = g_at 142 707 [.ref x, l1, l2, l3] (.ref x :: S) Z I J := gq_aload e_142_706 rfl
set_option maxRecDepth 100000 in
theorem e_142_707 : g_Pg 142 707 = ga_iload 3 708 := (congrFun pg_142 707).trans rfl
theorem q_142_707 {l0 l1 l2 : Value} {x : Int32} {S : List Value} {Z : gZ} {I : gI} {J : gJ} : g_at 142 707 [l0, l1, l2, .int x] S Z I J = g_at 142 708 [l0, l1, l2, .int x] (.int x :: S) Z I J := gq_iload e_142_707 rfl
set_option maxRecDepth 100000 in
theorem e_142_708 : g_Pg 142 708 = ga_push (.int 1) 709 := (congrFun pg_142 708).trans rfl
theorem q_142_708 {L : List Value} {S : List Value} {Z : gZ} {I : gI} {J : gJ} : g_at 142 708 L S Z I J = g_at 142 709 L (.int 1 :: S) Z I J := gq_push e_142_708
set_option maxRecDepth 100000 in
theorem e_142_709 : g_Pg 142 709 = ga_bin (fun x y => x + y) 710 := (congrFun pg_142 709).trans rfl
theorem q_142_709 {L : List Value} {x y : Int32} {S : List Value} {Z : gZ} {I : gI} {J : gJ} : g_at 142 709 L (.int y :: .int x :: S) Z I J = g_at 142 710 L (.int (x + y) :: S) Z I J := gq_bin e_142_709
set_option maxRecDepth 100000 in
theorem e_142_710 : g_Pg 142 710 = ga_iald 711 := (congrFun pg_142 710).trans rfl
theorem q_142_710 {L : List Value} {a : Nat} {i : Int32} {S : List Value} {Z : gZ} {I : gI} {J : gJ} (h : gTg8 (gKd Z a).1 a = true) (h0 : 0 ≤ i) (h1 : i.toNatClampNeg < (gKd Z a).2) : g_at 142 710 L (.int i :: .ref a :: S) Z I J = g_at 142 711 L (.int (I a i.toNatClampNeg) :: S) Z I J := gq_iald e_142_710 h h0 h1
set_option maxRecDepth 100000 in
theorem e_142_711 : g_Pg 142 711 = ga_aload 0 712 := (congrFun pg_142 711).trans rfl
theorem q_142_711 {l1 l2 l3 : Value} {x : Nat} {S : List Value} {Z : gZ} {I : gI} {J : gJ} : g_at 142 711 [.ref x, l1, l2, l3] S Z I J = g_at 142 712 [.ref x, l1, l2, l3] (.ref x :: S) Z I J := gq_aload e_142_711 rfl
set_option maxRecDepth 100000 in
theorem e_142_712 : g_Pg 142 712 = ga_iload 3 713 := (congrFun pg_142 712).trans rfl
theorem q_142_712 {l0 l1 l2 : Value} {x : Int32} {S : List Value} {Z : gZ} {I : gI} {J : gJ} : g_at 142 712 [l0, l1, l2, .int x] S Z I J = g_at 142 713 [l0, l1, l2, .int x] (.int x :: S) Z I J := gq_iload e_142_712 rfl
set_option maxRecDepth 100000 in
theorem e_142_713 : g_Pg 142 713 = ga_push (.int 2) 714 := (congrFun pg_142 713).trans rfl
theorem q_142_713 {L : List Value} {S : List Value} {Z : gZ} {I : gI} {J : gJ} : g_at 142 713 L S Z I J = g_at 142 714 L (.int 2 :: S) Z I J := gq_push e_142_713
set_option maxRecDepth 100000 in
theorem e_142_714 : g_Pg 142 714 = ga_bin (fun x y => x + y) 715 := (congrFun pg_142 714).trans rfl
theorem q_142_714 {L : List Value} {x y : Int32} {S : List Value} {Z : gZ} {I : gI} {J : gJ} : g_at 142 714 L (.int y :: .int x :: S) Z I J = g_at 142 715 L (.int (x + y) :: S) Z I J := gq_bin e_142_714
set_option maxRecDepth 100000 in
theorem e_142_715 : g_Pg 142 715 = ga_iald 716 := (congrFun pg_142 715).trans rfl
theorem q_142_715 {L : List Value} {a : Nat} {i : Int32} {S : List Value} {Z : gZ} {I : gI} {J : gJ} (h : gTg8 (gKd Z a).1 a = true) (h0 : 0 ≤ i) (h1 : i.toNatClampNeg < (gKd Z a).2) : g_at 142 715 L (.int i :: .ref a :: S) Z I J = g_at 142 716 L (.int (I a i.toNatClampNeg) :: S) Z I J := gq_iald e_142_715 h h0 h1
set_option maxRecDepth 100000 in
theorem e_142_716 : g_Pg 142 716 = ga_callV 6 73 2 719 := (congrFun pg_142 716).trans rfl
theorem q_142_716 {L : List Value} {a0 : Int32} {a1 : Int32} {a2 : Nat} {Z : gZ} {I : gI} {J : gJ} (h : (gKd Z a2).1 = 6) : g_at 142 716 L [.int a0, .int a1, .ref a2] Z I J = (g_at 73 0 [.ref a2, .int a1, .int a0, .null] [] Z I J).bind (fun r => g_at 142 719 L (r.1.toList ++ []) r.2.1 r.2.2.1 r.2.2.2) := gq_callV e_142_716 rfl rfl h rfl rfl rfl rfl rfl
set_option maxRecDepth 100000 in
theorem e_142_719 : g_Pg 142 719 = ga_aload 2 720 := (congrFun pg_142 719).trans rfl
theorem q_142_719 {l0 l1 l3 : Value} {x : Nat} {S : List Value} {Z : gZ} {I : gI} {J : gJ} : g_at 142 719 [l0, l1, .ref x, l3] S Z I J = g_at 142 720 [l0, l1, .ref x, l3] (.ref x :: S) Z I J := gq_aload e_142_719 rfl
set_option maxRecDepth 100000 in
theorem e_142_720 : g_Pg 142 720 = ga_aload 0 721 := (congrFun pg_142 720).trans rfl
theorem q_142_720 {l1 l2 l3 : Value} {x : Nat} {S : List Value} {Z : gZ} {I : gI} {J : gJ} : g_at 142 720 [.ref x, l1, l2, l3] S Z I J = g_at 142 721 [.ref x, l1, l2, l3] (.ref x :: S) Z I J := gq_aload e_142_720 rfl
set_option maxRecDepth 100000 in
theorem e_142_721 : g_Pg 142 721 = ga_iload 3 722 := (congrFun pg_142 721).trans rfl
theorem q_142_721 {l0 l1 l2 : Value} {x : Int32} {S : List Value} {Z : gZ} {I : gI} {J : gJ} : g_at 142 721 [l0, l1, l2, .int x] S Z I J = g_at 142 722 [l0, l1, l2, .int x] (.int x :: S) Z I J := gq_iload e_142_721 rfl
set_option maxRecDepth 100000 in
theorem e_142_722 : g_Pg 142 722 = ga_push (.int 1) 723 := (congrFun pg_142 722).trans rfl
theorem q_142_722 {L : List Value} {S : List Value} {Z : gZ} {I : gI} {J : gJ} : g_at 142 722 L S Z I J = g_at 142 723 L (.int 1 :: S) Z I J := gq_push e_142_722
set_option maxRecDepth 100000 in
theorem e_142_723 : g_Pg 142 723 = ga_bin (fun x y => x + y) 724 := (congrFun pg_142 723).trans rfl
theorem q_142_723 {L : List Value} {x y : Int32} {S : List Value} {Z : gZ} {I : gI} {J : gJ} : g_at 142 723 L (.int y :: .int x :: S) Z I J = g_at 142 724 L (.int (x + y) :: S) Z I J := gq_bin e_142_723
set_option maxRecDepth 100000 in
theorem e_142_724 : g_Pg 142 724 = ga_iald 725 := (congrFun pg_142 724).trans rfl
theorem q_142_724 {L : List Value} {a : Nat} {i : Int32} {S : List Value} {Z : gZ} {I : gI} {J : gJ} (h : gTg8 (gKd Z a).1 a = true) (h0 : 0 ≤ i) (h1 : i.toNatClampNeg < (gKd Z a).2) : g_at 142 724 L (.int i :: .ref a :: S) Z I J = g_at 142 725 L (.int (I a i.toNatClampNeg) :: S) Z I J := gq_iald e_142_724 h h0 h1
set_option maxRecDepth 100000 in
theorem e_142_725 : g_Pg 142 725 = ga_aload 0 726 := (congrFun pg_142 725).trans rfl
theorem q_142_725 {l1 l2 l3 : Value} {x : Nat} {S : List Value} {Z : gZ} {I : gI} {J : gJ} : g_at 142 725 [.ref x, l1, l2, l3] S Z I J = g_at 142 726 [.ref x, l1, l2, l3] (.ref x :: S) Z I J := gq_aload e_142_725 rfl
set_option maxRecDepth 100000 in
theorem e_142_726 : g_Pg 142 726 = ga_iload 3 727 := (congrFun pg_142 726).trans rfl
theorem q_142_726 {l0 l1 l2 : Value} {x : Int32} {S : List Value} {Z : gZ} {I : gI} {J : gJ} : g_at 142 726 [l0, l1, l2, .int x] S Z I J = g_at 142 727 [l0, l1, l2, .int x] (.int x :: S) Z I J := gq_iload e_142_726 rfl
set_option maxRecDepth 100000 in
theorem e_142_727 : g_Pg 142 727 = ga_push (.int 2) 728 := (congrFun pg_142 727).trans rfl
theorem q_142_727 {L : List Value} {S : List Value} {Z : gZ} {I : gI} {J : gJ} : g_at 142 727 L S Z I J = g_at 142 728 L (.int 2 :: S) Z I J := gq_push e_142_727
set_option maxRecDepth 100000 in
theorem e_142_728 : g_Pg 142 728 = ga_bin (fun x y => x + y) 729 := (congrFun pg_142 728).trans rfl
theorem q_142_728 {L : List Value} {x y : Int32} {S : List Value} {Z : gZ} {I : gI} {J : gJ} : g_at 142 728 L (.int y :: .int x :: S) Z I J = g_at 142 729 L (.int (x + y) :: S) Z I J := gq_bin e_142_728
set_option maxRecDepth 100000 in
theorem e_142_729 : g_Pg 142 729 = ga_iald 730 := (congrFun pg_142 729).trans rfl
theorem q_142_729 {L : List Value} {a : Nat} {i : Int32} {S : List Value} {Z : gZ} {I : gI} {J : gJ} (h : gTg8 (gKd Z a).1 a = true) (h0 : 0 ≤ i) (h1 : i.toNatClampNeg < (gKd Z a).2) : g_at 142 729 L (.int i :: .ref a :: S) Z I J = g_at 142 730 L (.int (I a i.toNatClampNeg) :: S) Z I J := gq_iald e_142_729 h h0 h1
set_option maxRecDepth 100000 in
theorem e_142_730 : g_Pg 142 730 = ga_callV 7 126 2 733 := (congrFun pg_142 730).trans rfl
theorem q_142_730 {L : List Value} {a0 : Int32} {a1 : Int32} {a2 : Nat} {r3 : Int32} {Z : gZ} {I : gI} {J : gJ} (h : (gKd Z a2).1 = 7) : g_at 142 730 L [.int a0, .int a1, .ref a2, .int r3] Z I J = (g_at 126 0 [.ref a2, .int a1, .int a0, .null, .null, .null, .null] [] Z I J).bind (fun r => g_at 142 733 L (r.1.toList ++ [.int r3]) r.2.1 r.2.2.1 r.2.2.2) := gq_callV e_142_730 rfl rfl h rfl rfl rfl rfl rfl
set_option maxRecDepth 100000 in
theorem e_142_733 : g_Pg 142 733 = ga_cmp (fun x y => decide (x = y)) 893 736 := (congrFun pg_142 733).trans rfl
theorem q_142_733 {L : List Value} {x y : Int32} {S : List Value} {Z : gZ} {I : gI} {J : gJ} : g_at 142 733 L (.int y :: .int x :: S) Z I J = if x = y then g_at 142 893 L S Z I J else g_at 142 736 L S Z I J := gq_cmp e_142_733 rfl
set_option maxRecDepth 100000 in
theorem e_142_736 : g_Pg 142 736 = ga_push (.int 0) 737 := (congrFun pg_142 736).trans rfl
theorem q_142_736 {L : List Value} {S : List Value} {Z : gZ} {I : gI} {J : gJ} : g_at 142 736 L S Z I J = g_at 142 737 L (.int 0 :: S) Z I J := gq_push e_142_736
set_option maxRecDepth 100000 in
theorem e_142_737 : g_Pg 142 737 = ga_zret := (congrFun pg_142 737).trans rfl
theorem q_142_737 {L : List Value} {x : Int32} {Z : gZ} {I : gI} {J : gJ} (h : gB01 x = true) : g_at 142 737 L [.int x] Z I J = some (some (.int x), Z, I, J) := gq_zret e_142_737 h
set_option maxRecDepth 100000 in
theorem e_142_738 : g_Pg 142 738 = ga_aload 1 739 := (congrFun pg_142 738).trans rfl
theorem q_142_738 {l0 l2 l3 : Value} {x : Nat} {S : List Value} {Z : gZ} {I : gI} {J : gJ} : g_at 142 738 [l0, .ref x, l2, l3] S Z I J = g_at 142 739 [l0, .ref x, l2, l3] (.ref x :: S) Z I J := gq_aload e_142_738 rfl
set_option maxRecDepth 100000 in
theorem e_142_739 : g_Pg 142 739 = ga_aload 0 740 := (congrFun pg_142 739).trans rfl
theorem q_142_739 {l1 l2 l3 : Value} {x : Nat} {S : List Value} {Z : gZ} {I : gI} {J : gJ} : g_at 142 739 [.ref x, l1, l2, l3] S Z I J = g_at 142 740 [.ref x, l1, l2, l3] (.ref x :: S) Z I J := gq_aload e_142_739 rfl
set_option maxRecDepth 100000 in
theorem e_142_740 : g_Pg 142 740 = ga_iload 3 741 := (congrFun pg_142 740).trans rfl
theorem q_142_740 {l0 l1 l2 : Value} {x : Int32} {S : List Value} {Z : gZ} {I : gI} {J : gJ} : g_at 142 740 [l0, l1, l2, .int x] S Z I J = g_at 142 741 [l0, l1, l2, .int x] (.int x :: S) Z I J := gq_iload e_142_740 rfl
set_option maxRecDepth 100000 in
theorem e_142_741 : g_Pg 142 741 = ga_push (.int 1) 742 := (congrFun pg_142 741).trans rfl
theorem q_142_741 {L : List Value} {S : List Value} {Z : gZ} {I : gI} {J : gJ} : g_at 142 741 L S Z I J = g_at 142 742 L (.int 1 :: S) Z I J := gq_push e_142_741
set_option maxRecDepth 100000 in
theorem e_142_742 : g_Pg 142 742 = ga_bin (fun x y => x + y) 743 := (congrFun pg_142 742).trans rfl
theorem q_142_742 {L : List Value} {x y : Int32} {S : List Value} {Z : gZ} {I : gI} {J : gJ} : g_at 142 742 L (.int y :: .int x :: S) Z I J = g_at 142 743 L (.int (x + y) :: S) Z I J := gq_bin e_142_742
set_option maxRecDepth 100000 in
theorem e_142_743 : g_Pg 142 743 = ga_iald 744 := (congrFun pg_142 743).trans rfl
theorem q_142_743 {L : List Value} {a : Nat} {i : Int32} {S : List Value} {Z : gZ} {I : gI} {J : gJ} (h : gTg8 (gKd Z a).1 a = true) (h0 : 0 ≤ i) (h1 : i.toNatClampNeg < (gKd Z a).2) : g_at 142 743 L (.int i :: .ref a :: S) Z I J = g_at 142 744 L (.int (I a i.toNatClampNeg) :: S) Z I J := gq_iald e_142_743 h h0 h1
set_option maxRecDepth 100000 in
theorem e_142_744 : g_Pg 142 744 = ga_aload 0 745 := (congrFun pg_142 744).trans rfl
theorem q_142_744 {l1 l2 l3 : Value} {x : Nat} {S : List Value} {Z : gZ} {I : gI} {J : gJ} : g_at 142 744 [.ref x, l1, l2, l3] S Z I J = g_at 142 745 [.ref x, l1, l2, l3] (.ref x :: S) Z I J := gq_aload e_142_744 rfl
set_option maxRecDepth 100000 in
theorem e_142_745 : g_Pg 142 745 = ga_iload 3 746 := (congrFun pg_142 745).trans rfl
theorem q_142_745 {l0 l1 l2 : Value} {x : Int32} {S : List Value} {Z : gZ} {I : gI} {J : gJ} : g_at 142 745 [l0, l1, l2, .int x] S Z I J = g_at 142 746 [l0, l1, l2, .int x] (.int x :: S) Z I J := gq_iload e_142_745 rfl
set_option maxRecDepth 100000 in
theorem e_142_746 : g_Pg 142 746 = ga_push (.int 2) 747 := (congrFun pg_142 746).trans rfl
theorem q_142_746 {L : List Value} {S : List Value} {Z : gZ} {I : gI} {J : gJ} : g_at 142 746 L S Z I J = g_at 142 747 L (.int 2 :: S) Z I J := gq_push e_142_746
set_option maxRecDepth 100000 in
theorem e_142_747 : g_Pg 142 747 = ga_bin (fun x y => x + y) 748 := (congrFun pg_142 747).trans rfl
theorem q_142_747 {L : List Value} {x y : Int32} {S : List Value} {Z : gZ} {I : gI} {J : gJ} : g_at 142 747 L (.int y :: .int x :: S) Z I J = g_at 142 748 L (.int (x + y) :: S) Z I J := gq_bin e_142_747
set_option maxRecDepth 100000 in
theorem e_142_748 : g_Pg 142 748 = ga_iald 749 := (congrFun pg_142 748).trans rfl
theorem q_142_748 {L : List Value} {a : Nat} {i : Int32} {S : List Value} {Z : gZ} {I : gI} {J : gJ} (h : gTg8 (gKd Z a).1 a = true) (h0 : 0 ≤ i) (h1 : i.toNatClampNeg < (gKd Z a).2) : g_at 142 748 L (.int i :: .ref a :: S) Z I J = g_at 142 749 L (.int (I a i.toNatClampNeg) :: S) Z I J := gq_iald e_142_748 h h0 h1
set_option maxRecDepth 100000 in
theorem e_142_749 : g_Pg 142 749 = ga_aload 0 750 := (congrFun pg_142 749).trans rfl
theorem q_142_749 {l1 l2 l3 : Value} {x : Nat} {S : List Value} {Z : gZ} {I : gI} {J : gJ} : g_at 142 749 [.ref x, l1, l2, l3] S Z I J = g_at 142 750 [.ref x, l1, l2, l3] (.ref x :: S) Z I J := gq_aload e_142_749 rfl
set_option maxRecDepth 100000 in
theorem e_142_750 : g_Pg 142 750 = ga_iload 3 751 := (congrFun pg_142 750).trans rfl
theorem q_142_750 {l0 l1 l2 : Value} {x : Int32} {S : List Value} {Z : gZ} {I : gI} {J : gJ} : g_at 142 750 [l0, l1, l2, .int x] S Z I J = g_at 142 751 [l0, l1, l2, .int x] (.int x :: S) Z I J := gq_iload e_142_750 rfl
set_option maxRecDepth 100000 in
theorem e_142_751 : g_Pg 142 751 = ga_push (.int 3) 752 := (congrFun pg_142 751).trans rfl
theorem q_142_751 {L : List Value} {S : List Value} {Z : gZ} {I : gI} {J : gJ} : g_at 142 751 L S Z I J = g_at 142 752 L (.int 3 :: S) Z I J := gq_push e_142_751
set_option maxRecDepth 100000 in
theorem e_142_752 : g_Pg 142 752 = ga_bin (fun x y => x + y) 753 := (congrFun pg_142 752).trans rfl
theorem q_142_752 {L : List Value} {x y : Int32} {S : List Value} {Z : gZ} {I : gI} {J : gJ} : g_at 142 752 L (.int y :: .int x :: S) Z I J = g_at 142 753 L (.int (x + y) :: S) Z I J := gq_bin e_142_752
set_option maxRecDepth 100000 in
theorem e_142_753 : g_Pg 142 753 = ga_iald 754 := (congrFun pg_142 753).trans rfl
theorem q_142_753 {L : List Value} {a : Nat} {i : Int32} {S : List Value} {Z : gZ} {I : gI} {J : gJ} (h : gTg8 (gKd Z a).1 a = true) (h0 : 0 ≤ i) (h1 : i.toNatClampNeg < (gKd Z a).2) : g_at 142 753 L (.int i :: .ref a :: S) Z I J = g_at 142 754 L (.int (I a i.toNatClampNeg) :: S) Z I J := gq_iald e_142_753 h h0 h1
set_option maxRecDepth 100000 in
theorem e_142_754 : g_Pg 142 754 = ga_aload 0 755 := (congrFun pg_142 754).trans rfl
theorem q_142_754 {l1 l2 l3 : Value} {x : Nat} {S : List Value} {Z : gZ} {I : gI} {J : gJ} : g_at 142 754 [.ref x, l1, l2, l3] S Z I J = g_at 142 755 [.ref x, l1, l2, l3] (.ref x :: S) Z I J := gq_aload e_142_754 rfl
set_option maxRecDepth 100000 in
theorem e_142_755 : g_Pg 142 755 = ga_iload 3 756 := (congrFun pg_142 755).trans rfl
theorem q_142_755 {l0 l1 l2 : Value} {x : Int32} {S : List Value} {Z : gZ} {I : gI} {J : gJ} : g_at 142 755 [l0, l1, l2, .int x] S Z I J = g_at 142 756 [l0, l1, l2, .int x] (.int x :: S) Z I J := gq_iload e_142_755 rfl
set_option maxRecDepth 100000 in
theorem e_142_756 : g_Pg 142 756 = ga_push (.int 4) 757 := (congrFun pg_142 756).trans rfl
theorem q_142_756 {L : List Value} {S : List Value} {Z : gZ} {I : gI} {J : gJ} : g_at 142 756 L S Z I J = g_at 142 757 L (.int 4 :: S) Z I J := gq_push e_142_756
set_option maxRecDepth 100000 in
theorem e_142_757 : g_Pg 142 757 = ga_bin (fun x y => x + y) 758 := (congrFun pg_142 757).trans rfl
theorem q_142_757 {L : List Value} {x y : Int32} {S : List Value} {Z : gZ} {I : gI} {J : gJ} : g_at 142 757 L (.int y :: .int x :: S) Z I J = g_at 142 758 L (.int (x + y) :: S) Z I J := gq_bin e_142_757
set_option maxRecDepth 100000 in
theorem e_142_758 : g_Pg 142 758 = ga_iald 759 := (congrFun pg_142 758).trans rfl
theorem q_142_758 {L : List Value} {a : Nat} {i : Int32} {S : List Value} {Z : gZ} {I : gI} {J : gJ} (h : gTg8 (gKd Z a).1 a = true) (h0 : 0 ≤ i) (h1 : i.toNatClampNeg < (gKd Z a).2) : g_at 142 758 L (.int i :: .ref a :: S) Z I J = g_at 142 759 L (.int (I a i.toNatClampNeg) :: S) Z I J := gq_iald e_142_758 h h0 h1
set_option maxRecDepth 100000 in
theorem e_142_759 : g_Pg 142 759 = ga_callV 6 74 4 762 := (congrFun pg_142 759).trans rfl
theorem q_142_759 {L : List Value} {a0 : Int32} {a1 : Int32} {a2 : Int32} {a3 : Int32} {a4 : Nat} {Z : gZ} {I : gI} {J : gJ} (h : (gKd Z a4).1 = 6) : g_at 142 759 L [.int a0, .int a1, .int a2, .int a3, .ref a4] Z I J = (g_at 74 0 [.ref a4, .int a3, .int a2, .int a1, .int a0, .null, .null, .null] [] Z I J).bind (fun r => g_at 142 762 L (r.1.toList ++ []) r.2.1 r.2.2.1 r.2.2.2) := gq_callV e_142_759 rfl rfl h rfl rfl rfl rfl rfl
set_option maxRecDepth 100000 in
theorem e_142_762 : g_Pg 142 762 = ga_aload 2 763 := (congrFun pg_142 762).trans rfl
theorem q_142_762 {l0 l1 l3 : Value} {x : Nat} {S : List Value} {Z : gZ} {I : gI} {J : gJ} : g_at 142 762 [l0, l1, .ref x, l3] S Z I J = g_at 142 763 [l0, l1, .ref x, l3] (.ref x :: S) Z I J := gq_aload e_142_762 rfl
set_option maxRecDepth 100000 in
theorem e_142_763 : g_Pg 142 763 = ga_aload 0 764 := (congrFun pg_142 763).trans rfl
theorem q_142_763 {l1 l2 l3 : Value} {x : Nat} {S : List Value} {Z : gZ} {I : gI} {J : gJ} : g_at 142 763 [.ref x, l1, l2, l3] S Z I J = g_at 142 764 [.ref x, l1, l2, l3] (.ref x :: S) Z I J := gq_aload e_142_763 rfl
set_option maxRecDepth 100000 in
theorem e_142_764 : g_Pg 142 764 = ga_iload 3 765 := (congrFun pg_142 764).trans rfl
theorem q_142_764 {l0 l1 l2 : Value} {x : Int32} {S : List Value} {Z : gZ} {I : gI} {J : gJ} : g_at 142 764 [l0, l1, l2, .int x] S Z I J = g_at 142 765 [l0, l1, l2, .int x] (.int x :: S) Z I J := gq_iload e_142_764 rfl
set_option maxRecDepth 100000 in
theorem e_142_765 : g_Pg 142 765 = ga_push (.int 1) 766 := (congrFun pg_142 765).trans rfl
theorem q_142_765 {L : List Value} {S : List Value} {Z : gZ} {I : gI} {J : gJ} : g_at 142 765 L S Z I J = g_at 142 766 L (.int 1 :: S) Z I J := gq_push e_142_765
set_option maxRecDepth 100000 in
theorem e_142_766 : g_Pg 142 766 = ga_bin (fun x y => x + y) 767 := (congrFun pg_142 766).trans rfl
theorem q_142_766 {L : List Value} {x y : Int32} {S : List Value} {Z : gZ} {I : gI} {J : gJ} : g_at 142 766 L (.int y :: .int x :: S) Z I J = g_at 142 767 L (.int (x + y) :: S) Z I J := gq_bin e_142_766
set_option maxRecDepth 100000 in
theorem e_142_767 : g_Pg 142 767 = ga_iald 768 := (congrFun pg_142 767).trans rfl
theorem q_142_767 {L : List Value} {a : Nat} {i : Int32} {S : List Value} {Z : gZ} {I : gI} {J : gJ} (h : gTg8 (gKd Z a).1 a = true) (h0 : 0 ≤ i) (h1 : i.toNatClampNeg < (gKd Z a).2) : g_at 142 767 L (.int i :: .ref a :: S) Z I J = g_at 142 768 L (.int (I a i.toNatClampNeg) :: S) Z I J := gq_iald e_142_767 h h0 h1
set_option maxRecDepth 100000 in
theorem e_142_768 : g_Pg 142 768 = ga_aload 0 769 := (congrFun pg_142 768).trans rfl
theorem q_142_768 {l1 l2 l3 : Value} {x : Nat} {S : List Value} {Z : gZ} {I : gI} {J : gJ} : g_at 142 768 [.ref x, l1, l2, l3] S Z I J = g_at 142 769 [.ref x, l1, l2, l3] (.ref x :: S) Z I J := gq_aload e_142_768 rfl
set_option maxRecDepth 100000 in
theorem e_142_769 : g_Pg 142 769 = ga_iload 3 770 := (congrFun pg_142 769).trans rfl
theorem q_142_769 {l0 l1 l2 : Value} {x : Int32} {S : List Value} {Z : gZ} {I : gI} {J : gJ} : g_at 142 769 [l0, l1, l2, .int x] S Z I J = g_at 142 770 [l0, l1, l2, .int x] (.int x :: S) Z I J := gq_iload e_142_769 rfl
set_option maxRecDepth 100000 in
theorem e_142_770 : g_Pg 142 770 = ga_push (.int 2) 771 := (congrFun pg_142 770).trans rfl
theorem q_142_770 {L : List Value} {S : List Value} {Z : gZ} {I : gI} {J : gJ} : g_at 142 770 L S Z I J = g_at 142 771 L (.int 2 :: S) Z I J := gq_push e_142_770
set_option maxRecDepth 100000 in
theorem e_142_771 : g_Pg 142 771 = ga_bin (fun x y => x + y) 772 := (congrFun pg_142 771).trans rfl
theorem q_142_771 {L : List Value} {x y : Int32} {S : List Value} {Z : gZ} {I : gI} {J : gJ} : g_at 142 771 L (.int y :: .int x :: S) Z I J = g_at 142 772 L (.int (x + y) :: S) Z I J := gq_bin e_142_771
set_option maxRecDepth 100000 in
theorem e_142_772 : g_Pg 142 772 = ga_iald 773 := (congrFun pg_142 772).trans rfl
theorem q_142_772 {L : List Value} {a : Nat} {i : Int32} {S : List Value} {Z : gZ} {I : gI} {J : gJ} (h : gTg8 (gKd Z a).1 a = true) (h0 : 0 ≤ i) (h1 : i.toNatClampNeg < (gKd Z a).2) : g_at 142 772 L (.int i :: .ref a :: S) Z I J = g_at 142 773 L (.int (I a i.toNatClampNeg) :: S) Z I J := gq_iald e_142_772 h h0 h1
set_option maxRecDepth 100000 in
theorem e_142_773 : g_Pg 142 773 = ga_aload 0 774 := (congrFun pg_142 773).trans rfl
theorem q_142_773 {l1 l2 l3 : Value} {x : Nat} {S : List Value} {Z : gZ} {I : gI} {J : gJ} : g_at 142 773 [.ref x, l1, l2, l3] S Z I J = g_at 142 774 [.ref x, l1, l2, l3] (.ref x :: S) Z I J := gq_aload e_142_773 rfl
set_option maxRecDepth 100000 in
theorem e_142_774 : g_Pg 142 774 = ga_iload 3 775 := (congrFun pg_142 774).trans rfl
theorem q_142_774 {l0 l1 l2 : Value} {x : Int32} {S : List Value} {Z : gZ} {I : gI} {J : gJ} : g_at 142 774 [l0, l1, l2, .int x] S Z I J = g_at 142 775 [l0, l1, l2, .int x] (.int x :: S) Z I J := gq_iload e_142_774 rfl
set_option maxRecDepth 100000 in
theorem e_142_775 : g_Pg 142 775 = ga_push (.int 3) 776 := (congrFun pg_142 775).trans rfl
theorem q_142_775 {L : List Value} {S : List Value} {Z : gZ} {I : gI} {J : gJ} : g_at 142 775 L S Z I J = g_at 142 776 L (.int 3 :: S) Z I J := gq_push e_142_775
set_option maxRecDepth 100000 in
theorem e_142_776 : g_Pg 142 776 = ga_bin (fun x y => x + y) 777 := (congrFun pg_142 776).trans rfl
theorem q_142_776 {L : List Value} {x y : Int32} {S : List Value} {Z : gZ} {I : gI} {J : gJ} : g_at 142 776 L (.int y :: .int x :: S) Z I J = g_at 142 777 L (.int (x + y) :: S) Z I J := gq_bin e_142_776
set_option maxRecDepth 100000 in
theorem e_142_777 : g_Pg 142 777 = ga_iald 778 := (congrFun pg_142 777).trans rfl
theorem q_142_777 {L : List Value} {a : Nat} {i : Int32} {S : List Value} {Z : gZ} {I : gI} {J : gJ} (h : gTg8 (gKd Z a).1 a = true) (h0 : 0 ≤ i) (h1 : i.toNatClampNeg < (gKd Z a).2) : g_at 142 777 L (.int i :: .ref a :: S) Z I J = g_at 142 778 L (.int (I a i.toNatClampNeg) :: S) Z I J := gq_iald e_142_777 h h0 h1
set_option maxRecDepth 100000 in
theorem e_142_778 : g_Pg 142 778 = ga_aload 0 779 := (congrFun pg_142 778).trans rfl
theorem q_142_778 {l1 l2 l3 : Value} {x : Nat} {S : List Value} {Z : gZ} {I : gI} {J : gJ} : g_at 142 778 [.ref x, l1, l2, l3] S Z I J = g_at 142 779 [.ref x, l1, l2, l3] (.ref x :: S) Z I J := gq_aload e_142_778 rfl
set_option maxRecDepth 100000 in
theorem e_142_779 : g_Pg 142 779 = ga_iload 3 780 := (congrFun pg_142 779).trans rfl
theorem q_142_779 {l0 l1 l2 : Value} {x : Int32} {S : List Value} {Z : gZ} {I : gI} {J : gJ} : g_at 142 779 [l0, l1, l2, .int x] S Z I J = g_at 142 780 [l0, l1, l2, .int x] (.int x :: S) Z I J := gq_iload e_142_779 rfl
set_option maxRecDepth 100000 in
theorem e_142_780 : g_Pg 142 780 = ga_push (.int 4) 781 := (congrFun pg_142 780).trans rfl
theorem q_142_780 {L : List Value} {S : List Value} {Z : gZ} {I : gI} {J : gJ} : g_at 142 780 L S Z I J = g_at 142 781 L (.int 4 :: S) Z I J := gq_push e_142_780
set_option maxRecDepth 100000 in
theorem e_142_781 : g_Pg 142 781 = ga_bin (fun x y => x + y) 782 := (congrFun pg_142 781).trans rfl
theorem q_142_781 {L : List Value} {x y : Int32} {S : List Value} {Z : gZ} {I : gI} {J : gJ} : g_at 142 781 L (.int y :: .int x :: S) Z I J = g_at 142 782 L (.int (x + y) :: S) Z I J := gq_bin e_142_781
set_option maxRecDepth 100000 in
theorem e_142_782 : g_Pg 142 782 = ga_iald 783 := (congrFun pg_142 782).trans rfl
theorem q_142_782 {L : List Value} {a : Nat} {i : Int32} {S : List Value} {Z : gZ} {I : gI} {J : gJ} (h : gTg8 (gKd Z a).1 a = true) (h0 : 0 ≤ i) (h1 : i.toNatClampNeg < (gKd Z a).2) : g_at 142 782 L (.int i :: .ref a :: S) Z I J = g_at 142 783 L (.int (I a i.toNatClampNeg) :: S) Z I J := gq_iald e_142_782 h h0 h1
set_option maxRecDepth 100000 in
theorem e_142_783 : g_Pg 142 783 = ga_callV 7 127 4 786 := (congrFun pg_142 783).trans rfl
theorem q_142_783 {L : List Value} {a0 : Int32} {a1 : Int32} {a2 : Int32} {a3 : Int32} {a4 : Nat} {r5 : Int32} {Z : gZ} {I : gI} {J : gJ} (h : (gKd Z a4).1 = 7) : g_at 142 783 L [.int a0, .int a1, .int a2, .int a3, .ref a4, .int r5] Z I J = (g_at 127 0 [.ref a4, .int a3, .int a2, .int a1, .int a0, .null, .null, .null, .null, .null] [] Z I J).bind (fun r => g_at 142 786 L (r.1.toList ++ [.int r5]) r.2.1 r.2.2.1 r.2.2.2) := gq_callV e_142_783 rfl rfl h rfl rfl rfl rfl rfl
set_option maxRecDepth 100000 in
theorem e_142_786 : g_Pg 142 786 = ga_cmp (fun x y => decide (x = y)) 893 789 := (congrFun pg_142 786).trans rfl
theorem q_142_786 {L : List Value} {x y : Int32} {S : List Value} {Z : gZ} {I : gI} {J : gJ} : g_at 142 786 L (.int y :: .int x :: S) Z I J = if x = y then g_at 142 893 L S Z I J else g_at 142 789 L S Z I J := gq_cmp e_142_786 rfl
set_option maxRecDepth 100000 in
theorem e_142_789 : g_Pg 142 789 = ga_push (.int 0) 790 := (congrFun pg_142 789).trans rfl
theorem q_142_789 {L : List Value} {S : List Value} {Z : gZ} {I : gI} {J : gJ} : g_at 142 789 L S Z I J = g_at 142 790 L (.int 0 :: S) Z I J := gq_push e_142_789
set_option maxRecDepth 100000 in
theorem e_142_790 : g_Pg 142 790 = ga_zret := (congrFun pg_142 790).trans rfl
theorem q_142_790 {L : List Value} {x : Int32} {Z : gZ} {I : gI} {J : gJ} (h : gB01 x = true) : g_at 142 790 L [.int x] Z I J = some (some (.int x), Z, I, J) := gq_zret e_142_790 h
set_option maxRecDepth 100000 in
theorem e_142_791 : g_Pg 142 791 = ga_aload 1 792 := (congrFun pg_142 791).trans rfl
theorem q_142_791 {l0 l2 l3 : Value} {x : Nat} {S : List Value} {Z : gZ} {I : gI} {J : gJ} : g_at 142 791 [l0, .ref x, l2, l3] S Z I J = g_at 142 792 [l0, .ref x, l2, l3] (.ref x :: S) Z I J := gq_aload e_142_791 rfl
set_option maxRecDepth 100000 in
theorem e_142_792 : g_Pg 142 792 = ga_aload 0 793 := (congrFun pg_142 792).trans rfl
theorem q_142_792 {l1 l2 l3 : Value} {x : Nat} {S : List Value} {Z : gZ} {I : gI} {J : gJ} : g_at 142 792 [.ref x, l1, l2, l3] S Z I J = g_at 142 793 [.ref x, l1, l2, l3] (.ref x :: S) Z I J := gq_aload e_142_792 rfl
set_option maxRecDepth 100000 in
theorem e_142_793 : g_Pg 142 793 = ga_iload 3 794 := (congrFun pg_142 793).trans rfl
theorem q_142_793 {l0 l1 l2 : Value} {x : Int32} {S : List Value} {Z : gZ} {I : gI} {J : gJ} : g_at 142 793 [l0, l1, l2, .int x] S Z I J = g_at 142 794 [l0, l1, l2, .int x] (.int x :: S) Z I J := gq_iload e_142_793 rfl
set_option maxRecDepth 100000 in
theorem e_142_794 : g_Pg 142 794 = ga_push (.int 1) 795 := (congrFun pg_142 794).trans rfl
theorem q_142_794 {L : List Value} {S : List Value} {Z : gZ} {I : gI} {J : gJ} : g_at 142 794 L S Z I J = g_at 142 795 L (.int 1 :: S) Z I J := gq_push e_142_794
set_option maxRecDepth 100000 in
theorem e_142_795 : g_Pg 142 795 = ga_bin (fun x y => x + y) 796 := (congrFun pg_142 795).trans rfl
theorem q_142_795 {L : List Value} {x y : Int32} {S : List Value} {Z : gZ} {I : gI} {J : gJ} : g_at 142 795 L (.int y :: .int x :: S) Z I J = g_at 142 796 L (.int (x + y) :: S) Z I J := gq_bin e_142_795
set_option maxRecDepth 100000 in
theorem e_142_796 : g_Pg 142 796 = ga_iald 797 := (congrFun pg_142 796).trans rfl
theorem q_142_796 {L : List Value} {a : Nat} {i : Int32} {S : List Value} {Z : gZ} {I : gI} {J : gJ} (h : gTg8 (gKd Z a).1 a = true) (h0 : 0 ≤ i) (h1 : i.toNatClampNeg < (gKd Z a).2) : g_at 142 796 L (.int i :: .ref a :: S) Z I J = g_at 142 797 L (.int (I a i.toNatClampNeg) :: S) Z I J := gq_iald e_142_796 h h0 h1
set_option maxRecDepth 100000 in
theorem e_142_797 : g_Pg 142 797 = ga_aload 0 798 := (congrFun pg_142 797).trans rfl
theorem q_142_797 {l1 l2 l3 : Value} {x : Nat} {S : List Value} {Z : gZ} {I : gI} {J : gJ} : g_at 142 797 [.ref x, l1, l2, l3] S Z I J = g_at 142 798 [.ref x, l1, l2, l3] (.ref x :: S) Z I J := gq_aload e_142_797 rfl
set_option maxRecDepth 100000 in
theorem e_142_798 : g_Pg 142 798 = ga_iload 3 799 := (congrFun pg_142 798).trans rfl
theorem q_142_798 {l0 l1 l2 : Value} {x : Int32} {S : List Value} {Z : gZ} {I : gI} {J : gJ} : g_at 142 798 [l0, l1, l2, .int x] S Z I J = g_at 142 799 [l0, l1, l2, .int x] (.int x :: S) Z I J := gq_iload e_142_798 rfl
set_option maxRecDepth 100000 in
theorem e_142_799 : g_Pg 142 799 = ga_push (.int 2) 800 := (congrFun pg_142 799).trans rfl
theorem q_142_799 {L : List Value} {S : List Value} {Z : gZ} {I : gI} {J : gJ} : g_at 142 799 L S Z I J = g_at 142 800 L (.int 2 :: S) Z I J := gq_push e_142_799
set_option maxRecDepth 100000 in
theorem e_142_800 : g_Pg 142 800 = ga_bin (fun x y => x + y) 801 := (congrFun pg_142 800).trans rfl
theorem q_142_800 {L : List Value} {x y : Int32} {S : List Value} {Z : gZ} {I : gI} {J : gJ} : g_at 142 800 L (.int y :: .int x :: S) Z I J = g_at 142 801 L (.int (x + y) :: S) Z I J := gq_bin e_142_800
set_option maxRecDepth 100000 in
theorem e_142_801 : g_Pg 142 801 = ga_iald 802 := (congrFun pg_142 801).trans rfl
theorem q_142_801 {L : List Value} {a : Nat} {i : Int32} {S : List Value} {Z : gZ} {I : gI} {J : gJ} (h : gTg8 (gKd Z a).1 a = true) (h0 : 0 ≤ i) (h1 : i.toNatClampNeg < (gKd Z a).2) : g_at 142 801 L (.int i :: .ref a :: S) Z I J = g_at 142 802 L (.int (I a i.toNatClampNeg) :: S) Z I J := gq_iald e_142_801 h h0 h1
set_option maxRecDepth 100000 in
theorem e_142_802 : g_Pg 142 802 = ga_callV 6 78 2 805 := (congrFun pg_142 802).trans rfl
theorem q_142_802 {L : List Value} {a0 : Int32} {a1 : Int32} {a2 : Nat} {Z : gZ} {I : gI} {J : gJ} (h : (gKd Z a2).1 = 6) : g_at 142 802 L [.int a0, .int a1, .ref a2] Z I J = (g_at 78 0 [.ref a2, .int a1, .int a0] [] Z I J).bind (fun r => g_at 142 805 L (r.1.toList ++ []) r.2.1 r.2.2.1 r.2.2.2) := gq_callV e_142_802 rfl rfl h rfl rfl rfl rfl rfl
set_option maxRecDepth 100000 in
theorem e_142_805 : g_Pg 142 805 = ga_aload 2 806 := (congrFun pg_142 805).trans rfl
theorem q_142_805 {l0 l1 l3 : Value} {x : Nat} {S : List Value} {Z : gZ} {I : gI} {J : gJ} : g_at 142 805 [l0, l1, .ref x, l3] S Z I J = g_at 142 806 [l0, l1, .ref x, l3] (.ref x :: S) Z I J := gq_aload e_142_805 rfl
set_option maxRecDepth 100000 in
theorem e_142_806 : g_Pg 142 806 = ga_aload 0 807 := (congrFun pg_142 806).trans rfl
theorem q_142_806 {l1 l2 l3 : Value} {x : Nat} {S : List Value} {Z : gZ} {I : gI} {J : gJ} : g_at 142 806 [.ref x, l1, l2, l3] S Z I J = g_at 142 807 [.ref x, l1, l2, l3] (.ref x :: S) Z I J := gq_aload e_142_806 rfl
set_option maxRecDepth 100000 in
theorem e_142_807 : g_Pg 142 807 = ga_iload 3 808 := (congrFun pg_142 807).trans rfl
theorem q_142_807 {l0 l1 l2 : Value} {x : Int32} {S : List Value} {Z : gZ} {I : gI} {J : gJ} : g_at 142 807 [l0, l1, l2, .int x] S Z I J = g_at 142 808 [l0, l1, l2, .int x] (.int x :: S) Z I J := gq_iload e_142_807 rfl
set_option maxRecDepth 100000 in
theorem e_142_808 : g_Pg 142 808 = ga_push (.int 1) 809 := (congrFun pg_142 808).trans rfl
theorem q_142_808 {L : List Value} {S : List Value} {Z : gZ} {I : gI} {J : gJ} : g_at 142 808 L S Z I J = g_at 142 809 L (.int 1 :: S) Z I J := gq_push e_142_808
set_option maxRecDepth 100000 in
theorem e_142_809 : g_Pg 142 809 = ga_bin (fun x y => x + y) 810 := (congrFun pg_142 809).trans rfl
theorem q_142_809 {L : List Value} {x y : Int32} {S : List Value} {Z : gZ} {I : gI} {J : gJ} : g_at 142 809 L (.int y :: .int x :: S) Z I J = g_at 142 810 L (.int (x + y) :: S) Z I J := gq_bin e_142_809
set_option maxRecDepth 100000 in
theorem e_142_810 : g_Pg 142 810 = ga_iald 811 := (congrFun pg_142 810).trans rfl
theorem q_142_810 {L : List Value} {a : Nat} {i : Int32} {S : List Value} {Z : gZ} {I : gI} {J : gJ} (h : gTg8 (gKd Z a).1 a = true) (h0 : 0 ≤ i) (h1 : i.toNatClampNeg < (gKd Z a).2) : g_at 142 810 L (.int i :: .ref a :: S) Z I J = g_at 142 811 L (.int (I a i.toNatClampNeg) :: S) Z I J := gq_iald e_142_810 h h0 h1
set_option maxRecDepth 100000 in
theorem e_142_811 : g_Pg 142 811 = ga_aload 0 812 := (congrFun pg_142 811).trans rfl
theorem q_142_811 {l1 l2 l3 : Value} {x : Nat} {S : List Value} {Z : gZ} {I : gI} {J : gJ} : g_at 142 811 [.ref x, l1, l2, l3] S Z I J = g_at 142 812 [.ref x, l1, l2, l3] (.ref x :: S) Z I J := gq_aload e_142_811 rfl
set_option maxRecDepth 100000 in
theorem e_142_812 : g_Pg 142 812 = ga_iload 3 813 := (congrFun pg_142 812).trans rfl
theorem q_142_812 {l0 l1 l2 : Value} {x : Int32} {S : List Value} {Z : gZ} {I : gI} {J : gJ} : g_at 142 812 [l0, l1, l2, .int x] S Z I J = g_at 142 813 [l0, l1, l2, .int x] (.int x :: S) Z I J := gq_iload e_142_812 rfl
set_option maxRecDepth 100000 in
theorem e_142_813 : g_Pg 142 813 = ga_push (.int 2) 814 := (congrFun pg_142 813).trans rfl
theorem q_142_813 {L : List Value} {S : List Value} {Z : gZ} {I : gI} {J : gJ} : g_at 142 813 L S Z I J = g_at 142 814 L (.int 2 :: S) Z I J := gq_push e_142_813
set_option maxRecDepth 100000 in
theorem e_142_814 : g_Pg 142 814 = ga_bin (fun x y => x + y) 815 := (congrFun pg_142 814).trans rfl
theorem q_142_814 {L : List Value} {x y : Int32} {S : List Value} {Z : gZ} {I : gI} {J : gJ} : g_at 142 814 L (.int y :: .int x :: S) Z I J = g_at 142 815 L (.int (x + y) :: S) Z I J := gq_bin e_142_814
set_option maxRecDepth 100000 in
theorem e_142_815 : g_Pg 142 815 = ga_iald 816 := (congrFun pg_142 815).trans rfl
theorem q_142_815 {L : List Value} {a : Nat} {i : Int32} {S : List Value} {Z : gZ} {I : gI} {J : gJ} (h : gTg8 (gKd Z a).1 a = true) (h0 : 0 ≤ i) (h1 : i.toNatClampNeg < (gKd Z a).2) : g_at 142 815 L (.int i :: .ref a :: S) Z I J = g_at 142 816 L (.int (I a i.toNatClampNeg) :: S) Z I J := gq_iald e_142_815 h h0 h1
set_option maxRecDepth 100000 in
theorem e_142_816 : g_Pg 142 816 = ga_callV 7 128 2 819 := (congrFun pg_142 816).trans rfl
theorem q_142_816 {L : List Value} {a0 : Int32} {a1 : Int32} {a2 : Nat} {r3 : Int32} {Z : gZ} {I : gI} {J : gJ} (h : (gKd Z a2).1 = 7) : g_at 142 816 L [.int a0, .int a1, .ref a2, .int r3] Z I J = (g_at 128 0 [.ref a2, .int a1, .int a0] [] Z I J).bind (fun r => g_at 142 819 L (r.1.toList ++ [.int r3]) r.2.1 r.2.2.1 r.2.2.2) := gq_callV e_142_816 rfl rfl h rfl rfl rfl rfl rfl
set_option maxRecDepth 100000 in
theorem e_142_819 : g_Pg 142 819 = ga_cmp (fun x y => decide (x = y)) 893 822 := (congrFun pg_142 819).trans rfl
theorem q_142_819 {L : List Value} {x y : Int32} {S : List Value} {Z : gZ} {I : gI} {J : gJ} : g_at 142 819 L (.int y :: .int x :: S) Z I J = if x = y then g_at 142 893 L S Z I J else g_at 142 822 L S Z I J := gq_cmp e_142_819 rfl
set_option maxRecDepth 100000 in
theorem e_142_822 : g_Pg 142 822 = ga_push (.int 0) 823 := (congrFun pg_142 822).trans rfl
theorem q_142_822 {L : List Value} {S : List Value} {Z : gZ} {I : gI} {J : gJ} : g_at 142 822 L S Z I J = g_at 142 823 L (.int 0 :: S) Z I J := gq_push e_142_822
set_option maxRecDepth 100000 in
theorem e_142_823 : g_Pg 142 823 = ga_zret := (congrFun pg_142 823).trans rfl
theorem q_142_823 {L : List Value} {x : Int32} {Z : gZ} {I : gI} {J : gJ} (h : gB01 x = true) : g_at 142 823 L [.int x] Z I J = some (some (.int x), Z, I, J) := gq_zret e_142_823 h
set_option maxRecDepth 100000 in
theorem e_142_824 : g_Pg 142 824 = ga_aload 1 825 := (congrFun pg_142 824).trans rfl
theorem q_142_824 {l0 l2 l3 : Value} {x : Nat} {S : List Value} {Z : gZ} {I : gI} {J : gJ} : g_at 142 824 [l0, .ref x, l2, l3] S Z I J = g_at 142 825 [l0, .ref x, l2, l3] (.ref x :: S) Z I J := gq_aload e_142_824 rfl
set_option maxRecDepth 100000 in
theorem e_142_825 : g_Pg 142 825 = ga_callV 6 79 0 828 := (congrFun pg_142 825).trans rfl
theorem q_142_825 {L : List Value} {a0 : Nat} {Z : gZ} {I : gI} {J : gJ} (h : (gKd Z a0).1 = 6) : g_at 142 825 L [.ref a0] Z I J = (g_at 79 0 [.ref a0, .null] [] Z I J).bind (fun r => g_at 142 828 L (r.1.toList ++ []) r.2.1 r.2.2.1 r.2.2.2) := gq_callV e_142_825 rfl rfl h rfl rfl rfl rfl rfl
set_option maxRecDepth 100000 in
theorem e_142_828 : g_Pg 142 828 = ga_aload 2 829 := (congrFun pg_142 828).trans rfl
theorem q_142_828 {l0 l1 l3 : Value} {x : Nat} {S : List Value} {Z : gZ} {I : gI} {J : gJ} : g_at 142 828 [l0, l1, .ref x, l3] S Z I J = g_at 142 829 [l0, l1, .ref x, l3] (.ref x :: S) Z I J := gq_aload e_142_828 rfl
set_option maxRecDepth 100000 in
theorem e_142_829 : g_Pg 142 829 = ga_callV 7 129 0 832 := (congrFun pg_142 829).trans rfl
theorem q_142_829 {L : List Value} {a0 : Nat} {r1 : Int32} {Z : gZ} {I : gI} {J : gJ} (h : (gKd Z a0).1 = 7) : g_at 142 829 L [.ref a0, .int r1] Z I J = (g_at 129 0 [.ref a0, .null] [] Z I J).bind (fun r => g_at 142 832 L (r.1.toList ++ [.int r1]) r.2.1 r.2.2.1 r.2.2.2) := gq_callV e_142_829 rfl rfl h rfl rfl rfl rfl rfl
set_option maxRecDepth 100000 in
theorem e_142_832 : g_Pg 142 832 = ga_cmp (fun x y => decide (x = y)) 893 835 := (congrFun pg_142 832).trans rfl
theorem q_142_832 {L : List Value} {x y : Int32} {S : List Value} {Z : gZ} {I : gI} {J : gJ} : g_at 142 832 L (.int y :: .int x :: S) Z I J = if x = y then g_at 142 893 L S Z I J else g_at 142 835 L S Z I J := gq_cmp e_142_832 rfl
set_option maxRecDepth 100000 in
theorem e_142_835 : g_Pg 142 835 = ga_push (.int 0) 836 := (congrFun pg_142 835).trans rfl
theorem q_142_835 {L : List Value} {S : List Value} {Z : gZ} {I : gI} {J : gJ} : g_at 142 835 L S Z I J = g_at 142 836 L (.int 0 :: S) Z I J := gq_push e_142_835
set_option maxRecDepth 100000 in
theorem e_142_836 : g_Pg 142 836 = ga_zret := (congrFun pg_142 836).trans rfl
theorem q_142_836 {L : List Value} {x : Int32} {Z : gZ} {I : gI} {J : gJ} (h : gB01 x = true) : g_at 142 836 L [.int x] Z I J = some (some (.int x), Z, I, J) := gq_zret e_142_836 h
set_option maxRecDepth 100000 in
theorem e_142_837 : g_Pg 142 837 = ga_aload 1 838 := (congrFun pg_142 837).trans rfl
theorem q_142_837 {l0 l2 l3 : Value} {x : Nat} {S : List Value} {Z : gZ} {I : gI} {J : gJ} : g_at 142 837 [l0, .ref x, l2, l3] S Z I J = g_at 142 838 [l0, .ref x, l2, l3] (.ref x :: S) Z I J := gq_aload e_142_837 rfl
set_option maxRecDepth 100000 in
theorem e_142_838 : g_Pg 142 838 = ga_aload 0 839 := (congrFun pg_142 838).trans rfl
theorem q_142_838 {l1 l2 l3 : Value} {x : Nat} {S : List Value} {Z : gZ} {I : gI} {J : gJ} : g_at 142 838 [.ref x, l1, l2, l3] S Z I J = g_at 142 839 [.ref x, l1, l2, l3] (.ref x :: S) Z I J := gq_aload e_142_838 rfl
set_option maxRecDepth 100000 in
theorem e_142_839 : g_Pg 142 839 = ga_iload 3 840 := (congrFun pg_142 839).trans rfl
theorem q_142_839 {l0 l1 l2 : Value} {x : Int32} {S : List Value} {Z : gZ} {I : gI} {J : gJ} : g_at 142 839 [l0, l1, l2, .int x] S Z I J = g_at 142 840 [l0, l1, l2, .int x] (.int x :: S) Z I J := gq_iload e_142_839 rfl
set_option maxRecDepth 100000 in
theorem e_142_840 : g_Pg 142 840 = ga_push (.int 1) 841 := (congrFun pg_142 840).trans rfl
theorem q_142_840 {L : List Value} {S : List Value} {Z : gZ} {I : gI} {J : gJ} : g_at 142 840 L S Z I J = g_at 142 841 L (.int 1 :: S) Z I J := gq_push e_142_840
set_option maxRecDepth 100000 in
theorem e_142_841 : g_Pg 142 841 = ga_bin (fun x y => x + y) 842 := (congrFun pg_142 841).trans rfl
theorem q_142_841 {L : List Value} {x y : Int32} {S : List Value} {Z : gZ} {I : gI} {J : gJ} : g_at 142 841 L (.int y :: .int x :: S) Z I J = g_at 142 842 L (.int (x + y) :: S) Z I J := gq_bin e_142_841
set_option maxRecDepth 100000 in
theorem e_142_842 : g_Pg 142 842 = ga_iald 843 := (congrFun pg_142 842).trans rfl
theorem q_142_842 {L : List Value} {a : Nat} {i : Int32} {S : List Value} {Z : gZ} {I : gI} {J : gJ} (h : gTg8 (gKd Z a).1 a = true) (h0 : 0 ≤ i) (h1 : i.toNatClampNeg < (gKd Z a).2) : g_at 142 842 L (.int i :: .ref a :: S) Z I J = g_at 142 843 L (.int (I a i.toNatClampNeg) :: S) Z I J := gq_iald e_142_842 h h0 h1
set_option maxRecDepth 100000 in
theorem e_142_843 : g_Pg 142 843 = ga_aload 0 844 := (congrFun pg_142 843).trans rfl
theorem q_142_843 {l1 l2 l3 : Value} {x : Nat} {S : List Value} {Z : gZ} {I : gI} {J : gJ} : g_at 142 843 [.ref x, l1, l2, l3] S Z I J = g_at 142 844 [.ref x, l1, l2, l3] (.ref x :: S) Z I J := gq_aload e_142_843 rfl
set_option maxRecDepth 100000 in
theorem e_142_844 : g_Pg 142 844 = ga_iload 3 845 := (congrFun pg_142 844).trans rfl
theorem q_142_844 {l0 l1 l2 : Value} {x : Int32} {S : List Value} {Z : gZ} {I : gI} {J : gJ} : g_at 142 844 [l0, l1, l2, .int x] S Z I J = g_at 142 845 [l0, l1, l2, .int x] (.int x :: S) Z I J := gq_iload e_142_844 rfl
set_option maxRecDepth 100000 in
theorem e_142_845 : g_Pg 142 845 = ga_push (.int 2) 846 := (congrFun pg_142 845).trans rfl
theorem q_142_845 {L : List Value} {S : List Value} {Z : gZ} {I : gI} {J : gJ} : g_at 142 845 L S Z I J = g_at 142 846 L (.int 2 :: S) Z I J := gq_push e_142_845
set_option maxRecDepth 100000 in
theorem e_142_846 : g_Pg 142 846 = ga_bin (fun x y => x + y) 847 := (congrFun pg_142 846).trans rfl
theorem q_142_846 {L : List Value} {x y : Int32} {S : List Value} {Z : gZ} {I : gI} {J : gJ} : g_at 142 846 L (.int y :: .int x :: S) Z I J = g_at 142 847 L (.int (x + y) :: S) Z I J := gq_bin e_142_846
set_option maxRecDepth 100000 in
theorem e_142_847 : g_Pg 142 847 = ga_iald 848 := (congrFun pg_142 847).trans rfl
theorem q_142_847 {L : List Value} {a : Nat} {i : Int32} {S : List Value} {Z : gZ} {I : gI} {J : gJ} (h : gTg8 (gKd Z a).1 a = true) (h0 : 0 ≤ i) (h1 : i.toNatClampNeg < (gKd Z a).2) : g_at 142 847 L (.int i :: .ref a :: S) Z I J = g_at 142 848 L (.int (I a i.toNatClampNeg) :: S) Z I J := gq_iald e_142_847 h h0 h1
set_option maxRecDepth 100000 in
theorem e_142_848 : g_Pg 142 848 = ga_callV 6 80 2 851 := (congrFun pg_142 848).trans rfl
theorem q_142_848 {L : List Value} {a0 : Int32} {a1 : Int32} {a2 : Nat} {Z : gZ} {I : gI} {J : gJ} (h : (gKd Z a2).1 = 6) : g_at 142 848 L [.int a0, .int a1, .ref a2] Z I J = (g_at 80 0 [.ref a2, .int a1, .int a0, .null, .null, .null] [] Z I J).bind (fun r => g_at 142 851 L (r.1.toList ++ []) r.2.1 r.2.2.1 r.2.2.2) := gq_callV e_142_848 rfl rfl h rfl rfl rfl rfl rfl
set_option maxRecDepth 100000 in
theorem e_142_851 : g_Pg 142 851 = ga_aload 2 852 := (congrFun pg_142 851).trans rfl
theorem q_142_851 {l0 l1 l3 : Value} {x : Nat} {S : List Value} {Z : gZ} {I : gI} {J : gJ} : g_at 142 851 [l0, l1, .ref x, l3] S Z I J = g_at 142 852 [l0, l1, .ref x, l3] (.ref x :: S) Z I J := gq_aload e_142_851 rfl
set_option maxRecDepth 100000 in
theorem e_142_852 : g_Pg 142 852 = ga_aload 0 853 := (congrFun pg_142 852).trans rfl
theorem q_142_852 {l1 l2 l3 : Value} {x : Nat} {S : List Value} {Z : gZ} {I : gI} {J : gJ} : g_at 142 852 [.ref x, l1, l2, l3] S Z I J = g_at 142 853 [.ref x, l1, l2, l3] (.ref x :: S) Z I J := gq_aload e_142_852 rfl
set_option maxRecDepth 100000 in
theorem e_142_853 : g_Pg 142 853 = ga_iload 3 854 := (congrFun pg_142 853).trans rfl
theorem q_142_853 {l0 l1 l2 : Value} {x : Int32} {S : List Value} {Z : gZ} {I : gI} {J : gJ} : g_at 142 853 [l0, l1, l2, .int x] S Z I J = g_at 142 854 [l0, l1, l2, .int x] (.int x :: S) Z I J := gq_iload e_142_853 rfl
set_option maxRecDepth 100000 in
theorem e_142_854 : g_Pg 142 854 = ga_push (.int 1) 855 := (congrFun pg_142 854).trans rfl
theorem q_142_854 {L : List Value} {S : List Value} {Z : gZ} {I : gI} {J : gJ} : g_at 142 854 L S Z I J = g_at 142 855 L (.int 1 :: S) Z I J := gq_push e_142_854
set_option maxRecDepth 100000 in
theorem e_142_855 : g_Pg 142 855 = ga_bin (fun x y => x + y) 856 := (congrFun pg_142 855).trans rfl
theorem q_142_855 {L : List Value} {x y : Int32} {S : List Value} {Z : gZ} {I : gI} {J : gJ} : g_at 142 855 L (.int y :: .int x :: S) Z I J = g_at 142 856 L (.int (x + y) :: S) Z I J := gq_bin e_142_855
set_option maxRecDepth 100000 in
theorem e_142_856 : g_Pg 142 856 = ga_iald 857 := (congrFun pg_142 856).trans rfl
theorem q_142_856 {L : List Value} {a : Nat} {i : Int32} {S : List Value} {Z : gZ} {I : gI} {J : gJ} (h : gTg8 (gKd Z a).1 a = true) (h0 : 0 ≤ i) (h1 : i.toNatClampNeg < (gKd Z a).2) : g_at 142 856 L (.int i :: .ref a :: S) Z I J = g_at 142 857 L (.int (I a i.toNatClampNeg) :: S) Z I J := gq_iald e_142_856 h h0 h1
set_option maxRecDepth 100000 in
theorem e_142_857 : g_Pg 142 857 = ga_aload 0 858 := (congrFun pg_142 857).trans rfl
theorem q_142_857 {l1 l2 l3 : Value} {x : Nat} {S : List Value} {Z : gZ} {I : gI} {J : gJ} : g_at 142 857 [.ref x, l1, l2, l3] S Z I J = g_at 142 858 [.ref x, l1, l2, l3] (.ref x :: S) Z I J := gq_aload e_142_857 rfl
set_option maxRecDepth 100000 in
theorem e_142_858 : g_Pg 142 858 = ga_iload 3 859 := (congrFun pg_142 858).trans rfl
theorem q_142_858 {l0 l1 l2 : Value} {x : Int32} {S : List Value} {Z : gZ} {I : gI} {J : gJ} : g_at 142 858 [l0, l1, l2, .int x] S Z I J = g_at 142 859 [l0, l1, l2, .int x] (.int x :: S) Z I J := gq_iload e_142_858 rfl
set_option maxRecDepth 100000 in
theorem e_142_859 : g_Pg 142 859 = ga_push (.int 2) 860 := (congrFun pg_142 859).trans rfl
theorem q_142_859 {L : List Value} {S : List Value} {Z : gZ} {I : gI} {J : gJ} : g_at 142 859 L S Z I J = g_at 142 860 L (.int 2 :: S) Z I J := gq_push e_142_859
set_option maxRecDepth 100000 in
theorem e_142_860 : g_Pg 142 860 = ga_bin (fun x y => x + y) 861 := (congrFun pg_142 860).trans rfl
theorem q_142_860 {L : List Value} {x y : Int32} {S : List Value} {Z : gZ} {I : gI} {J : gJ} : g_at 142 860 L (.int y :: .int x :: S) Z I J = g_at 142 861 L (.int (x + y) :: S) Z I J := gq_bin e_142_860
set_option maxRecDepth 100000 in
theorem e_142_861 : g_Pg 142 861 = ga_iald 862 := (congrFun pg_142 861).trans rfl
theorem q_142_861 {L : List Value} {a : Nat} {i : Int32} {S : List Value} {Z : gZ} {I : gI} {J : gJ} (h : gTg8 (gKd Z a).1 a = true) (h0 : 0 ≤ i) (h1 : i.toNatClampNeg < (gKd Z a).2) : g_at 142 861 L (.int i :: .ref a :: S) Z I J = g_at 142 862 L (.int (I a i.toNatClampNeg) :: S) Z I J := gq_iald e_142_861 h h0 h1
set_option maxRecDepth 100000 in
theorem e_142_862 : g_Pg 142 862 = ga_callV 7 131 2 865 := (congrFun pg_142 862).trans rfl
theorem q_142_862 {L : List Value} {a0 : Int32} {a1 : Int32} {a2 : Nat} {r3 : Int32} {Z : gZ} {I : gI} {J : gJ} (h : (gKd Z a2).1 = 7) : g_at 142 862 L [.int a0, .int a1, .ref a2, .int r3] Z I J = (g_at 131 0 [.ref a2, .int a1, .int a0, .null, .null] [] Z I J).bind (fun r => g_at 142 865 L (r.1.toList ++ [.int r3]) r.2.1 r.2.2.1 r.2.2.2) := gq_callV e_142_862 rfl rfl h rfl rfl rfl rfl rfl
set_option maxRecDepth 100000 in
theorem e_142_865 : g_Pg 142 865 = ga_cmp (fun x y => decide (x = y)) 893 868 := (congrFun pg_142 865).trans rfl
theorem q_142_865 {L : List Value} {x y : Int32} {S : List Value} {Z : gZ} {I : gI} {J : gJ} : g_at 142 865 L (.int y :: .int x :: S) Z I J = if x = y then g_at 142 893 L S Z I J else g_at 142 868 L S Z I J := gq_cmp e_142_865 rfl
set_option maxRecDepth 100000 in
theorem e_142_868 : g_Pg 142 868 = ga_push (.int 0) 869 := (congrFun pg_142 868).trans rfl
theorem q_142_868 {L : List Value} {S : List Value} {Z : gZ} {I : gI} {J : gJ} : g_at 142 868 L S Z I J = g_at 142 869 L (.int 0 :: S) Z I J := gq_push e_142_868
set_option maxRecDepth 100000 in
theorem e_142_869 : g_Pg 142 869 = ga_zret := (congrFun pg_142 869).trans rfl
theorem q_142_869 {L : List Value} {x : Int32} {Z : gZ} {I : gI} {J : gJ} (h : gB01 x = true) : g_at 142 869 L [.int x] Z I J = some (some (.int x), Z, I, J) := gq_zret e_142_869 h
set_option maxRecDepth 100000 in
theorem e_142_870 : g_Pg 142 870 = ga_aload 1 871 := (congrFun pg_142 870).trans rfl
theorem q_142_870 {l0 l2 l3 : Value} {x : Nat} {S : List Value} {Z : gZ} {I : gI} {J : gJ} : g_at 142 870 [l0, .ref x, l2, l3] S Z I J = g_at 142 871 [l0, .ref x, l2, l3] (.ref x :: S) Z I J := gq_aload e_142_870 rfl
set_option maxRecDepth 100000 in
theorem e_142_871 : g_Pg 142 871 = ga_aload 0 872 := (congrFun pg_142 871).trans rfl
theorem q_142_871 {l1 l2 l3 : Value} {x : Nat} {S : List Value} {Z : gZ} {I : gI} {J : gJ} : g_at 142 871 [.ref x, l1, l2, l3] S Z I J = g_at 142 872 [.ref x, l1, l2, l3] (.ref x :: S) Z I J := gq_aload e_142_871 rfl
set_option maxRecDepth 100000 in
theorem e_142_872 : g_Pg 142 872 = ga_iload 3 873 := (congrFun pg_142 872).trans rfl
theorem q_142_872 {l0 l1 l2 : Value} {x : Int32} {S : List Value} {Z : gZ} {I : gI} {J : gJ} : g_at 142 872 [l0, l1, l2, .int x] S Z I J = g_at 142 873 [l0, l1, l2, .int x] (.int x :: S) Z I J := gq_iload e_142_872 rfl
set_option maxRecDepth 100000 in
theorem e_142_873 : g_Pg 142 873 = ga_push (.int 1) 874 := (congrFun pg_142 873).trans rfl
theorem q_142_873 {L : List Value} {S : List Value} {Z : gZ} {I : gI} {J : gJ} : g_at 142 873 L S Z I J = g_at 142 874 L (.int 1 :: S) Z I J := gq_push e_142_873
set_option maxRecDepth 100000 in
theorem e_142_874 : g_Pg 142 874 = ga_bin (fun x y => x + y) 875 := (congrFun pg_142 874).trans rfl
theorem q_142_874 {L : List Value} {x y : Int32} {S : List Value} {Z : gZ} {I : gI} {J : gJ} : g_at 142 874 L (.int y :: .int x :: S) Z I J = g_at 142 875 L (.int (x + y) :: S) Z I J := gq_bin e_142_874
set_option maxRecDepth 100000 in
theorem e_142_875 : g_Pg 142 875 = ga_iald 876 := (congrFun pg_142 875).trans rfl
theorem q_142_875 {L : List Value} {a : Nat} {i : Int32} {S : List Value} {Z : gZ} {I : gI} {J : gJ} (h : gTg8 (gKd Z a).1 a = true) (h0 : 0 ≤ i) (h1 : i.toNatClampNeg < (gKd Z a).2) : g_at 142 875 L (.int i :: .ref a :: S) Z I J = g_at 142 876 L (.int (I a i.toNatClampNeg) :: S) Z I J := gq_iald e_142_875 h h0 h1
set_option maxRecDepth 100000 in
theorem e_142_876 : g_Pg 142 876 = ga_callV 6 81 1 879 := (congrFun pg_142 876).trans rfl
theorem q_142_876 {L : List Value} {a0 : Int32} {a1 : Nat} {Z : gZ} {I : gI} {J : gJ} (h : (gKd Z a1).1 = 6) : g_at 142 876 L [.int a0, .ref a1] Z I J = (g_at 81 0 [.ref a1, .int a0] [] Z I J).bind (fun r => g_at 142 879 L (r.1.toList ++ []) r.2.1 r.2.2.1 r.2.2.2) := gq_callV e_142_876 rfl rfl h rfl rfl rfl rfl rfl
set_option maxRecDepth 100000 in
theorem e_142_879 : g_Pg 142 879 = ga_aload 2 880 := (congrFun pg_142 879).trans rfl
theorem q_142_879 {l0 l1 l3 : Value} {x : Nat} {S : List Value} {Z : gZ} {I : gI} {J : gJ} : g_at 142 879 [l0, l1, .ref x, l3] S Z I J = g_at 142 880 [l0, l1, .ref x, l3] (.ref x :: S) Z I J := gq_aload e_142_879 rfl
set_option maxRecDepth 100000 in
theorem e_142_880 : g_Pg 142 880 = ga_aload 0 881 := (congrFun pg_142 880).trans rfl
theorem q_142_880 {l1 l2 l3 : Value} {x : Nat} {S : List Value} {Z : gZ} {I : gI} {J : gJ} : g_at 142 880 [.ref x, l1, l2, l3] S Z I J = g_at 142 881 [.ref x, l1, l2, l3] (.ref x :: S) Z I J := gq_aload e_142_880 rfl
set_option maxRecDepth 100000 in
theorem e_142_881 : g_Pg 142 881 = ga_iload 3 882 := (congrFun pg_142 881).trans rfl
theorem q_142_881 {l0 l1 l2 : Value} {x : Int32} {S : List Value} {Z : gZ} {I : gI} {J : gJ} : g_at 142 881 [l0, l1, l2, .int x] S Z I J = g_at 142 882 [l0, l1, l2, .int x] (.int x :: S) Z I J := gq_iload e_142_881 rfl
set_option maxRecDepth 100000 in
theorem e_142_882 : g_Pg 142 882 = ga_push (.int 1) 883 := (congrFun pg_142 882).trans rfl
theorem q_142_882 {L : List Value} {S : List Value} {Z : gZ} {I : gI} {J : gJ} : g_at 142 882 L S Z I J = g_at 142 883 L (.int 1 :: S) Z I J := gq_push e_142_882
set_option maxRecDepth 100000 in
theorem e_142_883 : g_Pg 142 883 = ga_bin (fun x y => x + y) 884 := (congrFun pg_142 883).trans rfl
theorem q_142_883 {L : List Value} {x y : Int32} {S : List Value} {Z : gZ} {I : gI} {J : gJ} : g_at 142 883 L (.int y :: .int x :: S) Z I J = g_at 142 884 L (.int (x + y) :: S) Z I J := gq_bin e_142_883
set_option maxRecDepth 100000 in
theorem e_142_884 : g_Pg 142 884 = ga_iald 885 := (congrFun pg_142 884).trans rfl
theorem q_142_884 {L : List Value} {a : Nat} {i : Int32} {S : List Value} {Z : gZ} {I : gI} {J : gJ} (h : gTg8 (gKd Z a).1 a = true) (h0 : 0 ≤ i) (h1 : i.toNatClampNeg < (gKd Z a).2) : g_at 142 884 L (.int i :: .ref a :: S) Z I J = g_at 142 885 L (.int (I a i.toNatClampNeg) :: S) Z I J := gq_iald e_142_884 h h0 h1
set_option maxRecDepth 100000 in
theorem e_142_885 : g_Pg 142 885 = ga_callV 7 132 1 888 := (congrFun pg_142 885).trans rfl
theorem q_142_885 {L : List Value} {a0 : Int32} {a1 : Nat} {r2 : Int32} {Z : gZ} {I : gI} {J : gJ} (h : (gKd Z a1).1 = 7) : g_at 142 885 L [.int a0, .ref a1, .int r2] Z I J = (g_at 132 0 [.ref a1, .int a0, .null, .null, .null] [] Z I J).bind (fun r => g_at 142 888 L (r.1.toList ++ [.int r2]) r.2.1 r.2.2.1 r.2.2.2) := gq_callV e_142_885 rfl rfl h rfl rfl rfl rfl rfl
set_option maxRecDepth 100000 in
theorem e_142_888 : g_Pg 142 888 = ga_cmp (fun x y => decide (x = y)) 893 891 := (congrFun pg_142 888).trans rfl
theorem q_142_888 {L : List Value} {x y : Int32} {S : List Value} {Z : gZ} {I : gI} {J : gJ} : g_at 142 888 L (.int y :: .int x :: S) Z I J = if x = y then g_at 142 893 L S Z I J else g_at 142 891 L S Z I J := gq_cmp e_142_888 rfl
set_option maxRecDepth 100000 in
theorem e_142_891 : g_Pg 142 891 = ga_push (.int 0) 892 := (congrFun pg_142 891).trans rfl
theorem q_142_891 {L : List Value} {S : List Value} {Z : gZ} {I : gI} {J : gJ} : g_at 142 891 L S Z I J = g_at 142 892 L (.int 0 :: S) Z I J := gq_push e_142_891
set_option maxRecDepth 100000 in
theorem e_142_892 : g_Pg 142 892 = ga_zret := (congrFun pg_142 892).trans rfl
theorem q_142_892 {L : List Value} {x : Int32} {Z : gZ} {I : gI} {J : gJ} (h : gB01 x = true) : g_at 142 892 L [.int x] Z I J = some (some (.int x), Z, I, J) := gq_zret e_142_892 h
set_option maxRecDepth 100000 in
theorem e_142_893 : g_Pg 142 893 = ga_iinc 3 5 896 := (congrFun pg_142 893).trans rfl
theorem q_142_893 {l0 l1 l2 : Value} {x : Int32} {S : List Value} {Z : gZ} {I : gI} {J : gJ} (h : gN1 l2 = true) : g_at 142 893 [l0, l1, l2, .int x] S Z I J = g_at 142 896 [l0, l1, l2, .int (x + 5)] S Z I J := gq_iinc e_142_893 rfl h rfl
set_option maxRecDepth 100000 in
theorem e_142_896 : g_Pg 142 896 = ga_goto 18 := (congrFun pg_142 896).trans rfl
theorem q_142_896 {L : List Value} {S : List Value} {Z : gZ} {I : gI} {J : gJ} : g_at 142 896 L S Z I J = g_at 142 18 L S Z I J := gq_goto e_142_896
set_option maxRecDepth 100000 in
theorem e_142_899 : g_Pg 142 899 = ga_push (.int 1) 900 := (congrFun pg_142 899).trans rfl
theorem q_142_899 {L : List Value} {S : List Value} {Z : gZ} {I : gI} {J : gJ} : g_at 142 899 L S Z I J = g_at 142 900 L (.int 1 :: S) Z I J := gq_push e_142_899
set_option maxRecDepth 100000 in
theorem e_142_900 : g_Pg 142 900 = ga_zret := (congrFun pg_142 900).trans rfl
theorem q_142_900 {L : List Value} {x : Int32} {Z : gZ} {I : gI} {J : gJ} (h : gB01 x = true) : g_at 142 900 L [.int x] Z I J = some (some (.int x), Z, I, J) := gq_zret e_142_900 h
