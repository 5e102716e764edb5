set_option maxRecDepth 100000 in
theorem e_144_0 : g_Pg 144 0 = ga_new 6 8 3 := (congrFun pg_144 0).trans rfl
theorem q_144_0 {L : List Value} {S : List Value} {Z : gZ} {I : gI} {J : gJ} (h : Z.1 < 1000) : g_at 144 0 L S Z I J = g_at 144 3 L (.ref Z.1 :: S) (Z.1 + 1, Z.2.1 + 8, va_up Z.2.2.1 Z.1 (6, 0), va_up Z.2.2.2 Z.1 (fun _ => none)) (va_up I Z.1 (fun _ => 0)) (va_up J Z.1 (fun _ => 0)) := gq_new e_144_0 h
set_option maxRecDepth 100000 in
theorem e_144_3 : g_Pg 144 3 = ga_dup 4 := (congrFun pg_144 3).trans rfl
theorem q_144_3 {L : List Value} {x : Nat} {S : List Value} {Z : gZ} {I : gI} {J : gJ} : g_at 144 3 L (.ref x :: S) Z I J = g_at 144 4 L (.ref x :: .ref x :: S) Z I J := gq_dup e_144_3
set_option maxRecDepth 100000 in
theorem e_144_4 : g_Pg 144 4 = ga_callI 52 0 7 := (congrFun pg_144 4).trans rfl
theorem q_144_4 {L : List Value} {a0 : Nat} {r1 : Nat} {Z : gZ} {I : gI} {J : gJ} : g_at 144 4 L [.ref a0, .ref r1] Z I J = (g_at 52 0 [.ref a0, .null] [] Z I J).bind (fun r => g_at 144 7 L (r.1.toList ++ [.ref r1]) r.2.1 r.2.2.1 r.2.2.2) := gq_callI e_144_4 rfl rfl rfl rfl rfl rfl
set_option maxRecDepth 100000 in
theorem e_144_7 : g_Pg 144 7 = ga_astore 1 8 := (congrFun pg_144 7).trans rfl
theorem q_144_7 {l0 l1 l2 l3 : Value} {x : Nat} {S : List Value} {Z : gZ} {I : gI} {J : gJ} (h : gN1 l0 = true) : g_at 144 7 [l0, l1, l2, l3] (.ref x :: S) Z I J = g_at 144 8 [l0, .ref x, l2, l3] S Z I J := gq_astore e_144_7 h rfl rfl
set_option maxRecDepth 100000 in
theorem e_144_8 : g_Pg 144 8 = ga_new 7 30 11 := (congrFun pg_144 8).trans rfl
theorem q_144_8 {L : List Value} {S : List Value} {Z : gZ} {I : gI} {J : gJ} (h : Z.1 < 1000) : g_at 144 8 L S Z I J = g_at 144 11 L (.ref Z.1 :: S) (Z.1 + 1, Z.2.1 + 30, va_up Z.2.2.1 Z.1 (7, 0), va_up Z.2.2.2 Z.1 (fun _ => none)) (va_up I Z.1 (fun _ => 0)) (va_up J Z.1 (fun _ => 0)) := gq_new e_144_8 h
set_option maxRecDepth 100000 in
theorem e_144_11 : g_Pg 144 11 = ga_dup 12 := (congrFun pg_144 11).trans rfl
theorem q_144_11 {L : List Value} {x : Nat} {S : List Value} {Z : gZ} {I : gI} {J : gJ} : g_at 144 11 L (.ref x :: S) Z I J = g_at 144 12 L (.ref x :: .ref x :: S) Z I J := gq_dup e_144_11
set_option maxRecDepth 100000 in
theorem e_144_12 : g_Pg 144 12 = ga_callI 82 0 15 := (congrFun pg_144 12).trans rfl
theorem q_144_12 {L : List Value} {a0 : Nat} {r1 : Nat} {Z : gZ} {I : gI} {J : gJ} : g_at 144 12 L [.ref a0, .ref r1] Z I J = (g_at 82 0 [.ref a0] [] Z I J).bind (fun r => g_at 144 15 L (r.1.toList ++ [.ref r1]) r.2.1 r.2.2.1 r.2.2.2) := gq_callI e_144_12 rfl rfl rfl rfl rfl rfl
set_option maxRecDepth 100000 in
theorem e_144_15 : g_Pg 144 15 = ga_astore 2 16 := (congrFun pg_144 15).trans rfl
theorem q_144_15 {l0 l1 l2 l3 : Value} {x : Nat} {S : List Value} {Z : gZ} {I : gI} {J : gJ} (h : gN1 l1 = true) : g_at 144 15 [l0, l1, l2, l3] (.ref x :: S) Z I J = g_at 144 16 [l0, l1, .ref x, l3] S Z I J := gq_astore e_144_15 h rfl rfl
set_option maxRecDepth 100000 in
theorem e_144_16 : g_Pg 144 16 = ga_push (.int 0) 17 := (congrFun pg_144 16).trans rfl
theorem q_144_16 {L : List Value} {S : List Value} {Z : gZ} {I : gI} {J : gJ} : g_at 144 16 L S Z I J = g_at 144 17 L (.int 0 :: S) Z I J := gq_push e_144_16
set_option maxRecDepth 100000 in
theorem e_144_17 : g_Pg 144 17 = ga_istore 3 18 := (congrFun pg_144 17).trans rfl
theorem q_144_17 {l0 l1 l2 l3 : Value} {x : Int32} {S : List Value} {Z : gZ} {I : gI} {J : gJ} (h : gN1 l2 = true) : g_at 144 17 [l0, l1, l2, l3] (.int x :: S) Z I J = g_at 144 18 [l0, l1, l2, .int x] S Z I J := gq_istore e_144_17 h rfl rfl
set_option maxRecDepth 100000 in
theorem e_144_18 : g_Pg 144 18 = ga_iload 3 19 := (congrFun pg_144 18).trans rfl
theorem q_144_18 {l0 l1 l2 : Value} {x : Int32} {S : List Value} {Z : gZ} {I : gI} {J : gJ} : g_at 144 18 [l0, l1, l2, .int x] S Z I J = g_at 144 19 [l0, l1, l2, .int x] (.int x :: S) Z I J := gq_iload e_144_18 rfl
set_option maxRecDepth 100000 in
theorem e_144_19 : g_Pg 144 19 = ga_aload 0 20 := (congrFun pg_144 19).trans rfl
theorem q_144_19 {l1 l2 l3 : Value} {x : Nat} {S : List Value} {Z : gZ} {I : gI} {J : gJ} : g_at 144 19 [.ref x, l1, l2, l3] S Z I J = g_at 144 20 [.ref x, l1, l2, l3] (.ref x :: S) Z I J := gq_aload e_144_19 rfl
set_option maxRecDepth 100000 in
theorem e_144_20 : g_Pg 144 20 = ga_alen 21 := (congrFun pg_144 20).trans rfl
theorem q_144_20 {L : List Value} {a : Nat} {S : List Value} {Z : gZ} {I : gI} {J : gJ} (h : gTgA (gKd Z a).1 a = true) : g_at 144 20 L (.ref a :: S) Z I J = g_at 144 21 L (.int (Int32.ofNat (gKd Z a).2) :: S) Z I J := gq_alen e_144_20 h
set_option maxRecDepth 100000 in
theorem e_144_21 : g_Pg 144 21 = ga_push (.int 5) 22 := (congrFun pg_144 21).trans rfl
theorem q_144_21 {L : List Value} {S : List Value} {Z : gZ} {I : gI} {J : gJ} : g_at 144 21 L S Z I J = g_at 144 22 L (.int 5 :: S) Z I J := gq_push e_144_21
set_option maxRecDepth 100000 in
theorem e_144_22 : g_Pg 144 22 = ga_bin (fun x y => x - y) 23 := (congrFun pg_144 22).trans rfl
theorem q_144_22 {L : List Value} {x y : Int32} {S : List Value} {Z : gZ} {I : gI} {J : gJ} : g_at 144 22 L (.int y :: .int x :: S) Z I J = g_at 144 23 L (.int (x - y) :: S) Z I J := gq_bin e_144_22
set_option maxRecDepth 100000 in
theorem e_144_23 : g_Pg 144 23 = ga_cmp (fun x y => decide (y < x)) 899 26 := (congrFun pg_144 23).trans rfl
theorem q_144_23 {L : List Value} {x y : Int32} {S : List Value} {Z : gZ} {I : gI} {J : gJ} : g_at 144 23 L (.int y :: .int x :: S) Z I J = if y < x then g_at 144 899 L S Z I J else g_at 144 26 L S Z I J := gq_cmp e_144_23 rfl
set_option maxRecDepth 100000 in
theorem e_144_26 : g_Pg 144 26 = ga_aload 0 27 := (congrFun pg_144 26).trans rfl
theorem q_144_26 {l1 l2 l3 : Value} {x : Nat} {S : List Value} {Z : gZ} {I : gI} {J : gJ} : g_at 144 26 [.ref x, l1, l2, l3] S Z I J = g_at 144 27 [.ref x, l1, l2, l3] (.ref x :: S) Z I J := gq_aload e_144_26 rfl
set_option maxRecDepth 100000 in
theorem e_144_27 : g_Pg 144 27 = ga_iload 3 28 := (congrFun pg_144 27).trans rfl
theorem q_144_27 {l0 l1 l2 : Value} {x : Int32} {S : List Value} {Z : gZ} {I : gI} {J : gJ} : g_at 144 27 [l0, l1, l2, .int x] S Z I J = g_at 144 28 [l0, l1, l2, .int x] (.int x :: S) Z I J := gq_iload e_144_27 rfl
set_option maxRecDepth 100000 in
theorem e_144_28 : g_Pg 144 28 = ga_iald 29 := (congrFun pg_144 28).trans rfl
theorem q_144_28 {L : List Value} {a : Nat} {i : Int32} {S : List Value} {Z : gZ} {I : gI} {J : gJ} (h : gTg8 (gKd Z a).1 a = true) (h0 : 0 ≤ i) (h1 : i.toNatClampNeg < (gKd Z a).2) : g_at 144 28 L (.int i :: .ref a :: S) Z I J = g_at 144 29 L (.int (I a i.toNatClampNeg) :: S) Z I J := gq_iald e_144_28 h h0 h1
set_option maxRecDepth 100000 in
theorem e_144_29 : g_Pg 144 29 = ga_push (.int 31) 31 := (congrFun pg_144 29).trans rfl
theorem q_144_29 {L : List Value} {S : List Value} {Z : gZ} {I : gI} {J : gJ} : g_at 144 29 L S Z I J = g_at 144 31 L (.int 31 :: S) Z I J := gq_push e_144_29
set_option maxRecDepth 100000 in
theorem e_144_31 : g_Pg 144 31 = ga_bin (fun x y => x &&& y) 32 := (congrFun pg_144 31).trans rfl
theorem q_144_31 {L : List Value} {x y : Int32} {S : List Value} {Z : gZ} {I : gI} {J : gJ} : g_at 144 31 L (.int y :: .int x :: S) Z I J = g_at 144 32 L (.int (x &&& y) :: S) Z I J := gq_bin e_144_31
set_option maxRecDepth 100000 in
theorem e_144_32 : g_Pg 144 32 = ga_switch 0 [148, 211, 224, 237, 250, 283, 316, 349, 372, 395, 418, 441, 464, 497, 520, 543, 566, 609, 652, 705, 738, 791, 824, 837, 870] 893 := (congrFun pg_144 32).trans rfl
theorem q_144_32 {L : List Value} {x : Int32} {S : List Value} {Z : gZ} {I : gI} {J : gJ} : g_at 144 32 L (.int x :: S) Z I J = if x = 0 then g_at 144 148 L S Z I J else if x = 1 then g_at 144 211 L S Z I J else if x = 2 then g_at 144 224 L S Z I J else if x = 3 then g_at 144 237 L S Z I J else if x = 4 then g_at 144 250 L S Z I J else if x = 5 then g_at 144 283 L S Z I J else if x = 6 then g_at 144 316 L S Z I J else if x = 7 then g_at 144 349 L S Z I J else if x = 8 then g_at 144 372 L S Z I J else if x = 9 then g_at 144 395 L S Z I J else if x = 10 then g_at 144 418 L S Z I J else if x = 11 then g_at 144 441 L S Z I J else if x = 12 then g_at 144 464 L S Z I J else if x = 13 then g_at 144 497 L S Z I J else if x = 14 then g_at 144 520 L S Z I J else if x = 15 then g_at 144 543 L S Z I J else if x = 16 then g_at 144 566 L S Z I J else if x = 17 then g_at 144 609 L S Z I J else if x = 18 then g_at 144 652 L S Z I J else if x = 19 then g_at 144 705 L S Z I J else if x = 20 then g_at 144 738 L S Z I J else if x = 21 then g_at 144 791 L S Z I J else if x = 22 then g_at 144 824 L S Z I J else if x = 23 then g_at 144 837 L S Z I J else if x = 24 then g_at 144 870 L S Z I J else g_at 144 893 L S Z I J := (gq_switch e_144_32).trans (gsw_cons (F := fun q => g_at 144 q L S Z I J) (lo := 0) (lo' := 1) (v := 0) rfl rfl (gsw_cons (F := fun q => g_at 144 q L S Z I J) (lo := 1) (lo' := 2) (v := 1) rfl rfl (gsw_cons (F := fun q => g_at 144 q L S Z I J) (lo := 2) (lo' := 3) (v := 2) rfl rfl (gsw_cons (F := fun q => g_at 144 q L S Z I J) (lo := 3) (lo' := 4) (v := 3) rfl rfl (gsw_cons (F := fun q => g_at 144 q L S Z I J) (lo := 4) (lo' := 5) (v := 4) rfl rfl (gsw_cons (F := fun q => g_at 144 q L S Z I J) (lo := 5) (lo' := 6) (v := 5) rfl rfl (gsw_cons (F := fun q => g_at 144 q L S Z I J) (lo := 6) (lo' := 7) (v := 6) rfl rfl (gsw_cons (F := fun q => g_at 144 q L S Z I J) (lo := 7) (lo' := 8) (v := 7) rfl rfl (gsw_cons (F := fun q => g_at 144 q L S Z I J) (lo := 8) (lo' := 9) (v := 8) rfl rfl (gsw_cons (F := fun q => g_at 144 q L S Z I J) (lo := 9) (lo' := 10) (v := 9) rfl rfl (gsw_cons (F := fun q => g_at 144 q L S Z I J) (lo := 10) (lo' := 11) (v := 10) rfl rfl (gsw_cons (F := fun q => g_at 144 q L S Z I J) (lo := 11) (lo' := 12) (v := 11) rfl rfl (gsw_cons (F := fun q => g_at 144 q L S Z I J) (lo := 12) (lo' := 13) (v := 12) rfl rfl (gsw_cons (F := fun q => g_at 144 q L S Z I J) (lo := 13) (lo' := 14) (v := 13) rfl rfl (gsw_cons (F := fun q => g_at 144 q L S Z I J) (lo := 14) (lo' := 15) (v := 14) rfl rfl (gsw_cons (F := fun q => g_at 144 q L S Z I J) (lo := 15) (lo' := 16) (v := 15) rfl rfl (gsw_cons (F := fun q => g_at 144 q L S Z I J) (lo := 16) (lo' := 17) (v := 16) rfl rfl (gsw_cons (F := fun q => g_at 144 q L S Z I J) (lo := 17) (lo' := 18) (v := 17) rfl rfl (gsw_cons (F := fun q => g_at 144 q L S Z I J) (lo := 18) (lo' := 19) (v := 18) rfl rfl (gsw_cons (F := fun q => g_at 144 q L S Z I J) (lo := 19) (lo' := 20) (v := 19) rfl rfl (gsw_cons (F := fun q => g_at 144 q L S Z I J) (lo := 20) (lo' := 21) (v := 20) rfl rfl (gsw_cons (F := fun q => g_at 144 q L S Z I J) (lo := 21) (lo' := 22) (v := 21) rfl rfl (gsw_cons (F := fun q => g_at 144 q L S Z I J) (lo := 22) (lo' := 23) (v := 22) rfl rfl (gsw_cons (F := fun q => g_at 144 q L S Z I J) (lo := 23) (lo' := 24) (v := 23) rfl rfl (gsw_cons (F := fun q => g_at 144 q L S Z I J) (lo := 24) (lo' := 25) (v := 24) rfl rfl rfl)))))))))))))))))))))))))
set_option maxRecDepth 100000 in
theorem e_144_148 : g_Pg 144 148 = ga_aload 1 149 := (congrFun pg_144 148).trans rfl
theorem q_144_148 {l0 l2 l3 : Value} {x : Nat} {S : List Value} {Z : gZ} {I : gI} {J : gJ} : g_at 144 148 [l0, .ref x, l2, l3] S Z I J = g_at 144 149 [l0, .ref x, l2, l3] (.ref x :: S) Z I J := gq_aload e_144_148 rfl
set_option maxRecDepth 100000 in
theorem e_144_149 : g_Pg 144 149 = ga_aload 0 150 := (congrFun pg_144 149).trans rfl
theorem q_144_149 {l1 l2 l3 : Value} {x : Nat} {S : List Value} {Z : gZ} {I : gI} {J : gJ} : g_at 144 149 [.ref x, l1, l2, l3] S Z I J = g_at 144 150 [.ref x, l1, l2, l3] (.ref x :: S) Z I J := gq_aload e_144_149 rfl
set_option maxRecDepth 100000 in
theorem e_144_150 : g_Pg 144 150 = ga_iload 3 151 := (congrFun pg_144 150).trans rfl
theorem q_144_150 {l0 l1 l2 : Value} {x : Int32} {S : List Value} {Z : gZ} {I : gI} {J : gJ} : g_at 144 150 [l0, l1, l2, .int x] S Z I J = g_at 144 151 [l0, l1, l2, .int x] (.int x :: S) Z I J := gq_iload e_144_150 rfl
set_option maxRecDepth 100000 in
theorem e_144_151 : g_Pg 144 151 = ga_push (.int 1) 152 := (congrFun pg_144 151).trans rfl
theorem q_144_151 {L : List Value} {S : List Value} {Z : gZ} {I : gI} {J : gJ} : g_at 144 151 L S Z I J = g_at 144 152 L (.int 1 :: S) Z I J := gq_push e_144_151
set_option maxRecDepth 100000 in
theorem e_144_152 : g_Pg 144 152 = ga_bin (fun x y => x + y) 153 := (congrFun pg_144 152).trans rfl
theorem q_144_152 {L : List Value} {x y : Int32} {S : List Value} {Z : gZ} {I : gI} {J : gJ} : g_at 144 152 L (.int y :: .int x :: S) Z I J = g_at 144 153 L (.int (x + y) :: S) Z I J := gq_bin e_144_152
set_option maxRecDepth 100000 in
theorem e_144_153 : g_Pg 144 153 = ga_iald 154 := (congrFun pg_144 153).trans rfl
theorem q_144_153 {L : List Value} {a : Nat} {i : Int32} {S : List Value} {Z : gZ} {I : gI} {J : gJ} (h : gTg8 (gKd Z a).1 a = true) (h0 : 0 ≤ i) (h1 : i.toNatClampNeg < (gKd Z a).2) : g_at 144 153 L (.int i :: .ref a :: S) Z I J = g_at 144 154 L (.int (I a i.toNatClampNeg) :: S) Z I J := gq_iald e_144_153 h h0 h1
set_option maxRecDepth 100000 in
theorem e_144_154 : g_Pg 144 154 = ga_i2l 155 := (congrFun pg_144 154).trans rfl
theorem q_144_154 {L : List Value} {x : Int32} {S : List Value} {Z : gZ} {I : gI} {J : gJ} : g_at 144 154 L (.int x :: S) Z I J = g_at 144 155 L (.long x.toInt64 :: S) Z I J := gq_i2l e_144_154
set_option maxRecDepth 100000 in
theorem e_144_155 : g_Pg 144 155 = ga_push (.int 32) 157 := (congrFun pg_144 155).trans rfl
theorem q_144_155 {L : List Value} {S : List Value} {Z : gZ} {I : gI} {J : gJ} : g_at 144 155 L S Z I J = g_at 144 157 L (.int 32 :: S) Z I J := gq_push e_144_155
set_option maxRecDepth 100000 in
theorem e_144_157 : g_Pg 144 157 = ga_lsh (fun x y => x <<< (y.toInt64 &&& 63)) 158 := (congrFun pg_144 157).trans rfl
theorem q_144_157 {L : List Value} {x : Int64} {y : Int32} {S : List Value} {Z : gZ} {I : gI} {J : gJ} : g_at 144 157 L (.int y :: .long x :: S) Z I J = g_at 144 158 L (.long (x <<< (y.toInt64 &&& 63)) :: S) Z I J := gq_lsh e_144_157
set_option maxRecDepth 100000 in
theorem e_144_158 : g_Pg 144 158 = ga_aload 0 159 := (congrFun pg_144 158).trans rfl
theorem q_144_158 {l1 l2 l3 : Value} {x : Nat} {S : List Value} {Z : gZ} {I : gI} {J : gJ} : g_at 144 158 [.ref x, l1, l2, l3] S Z I J = g_at 144 159 [.ref x, l1, l2, l3] (.ref x :: S) Z I J := gq_aload e_144_158 rfl
set_option maxRecDepth 100000 in
theorem e_144_159 : g_Pg 144 159 = ga_iload 3 160 := (congrFun pg_144 159).trans rfl
theorem q_144_159 {l0 l1 l2 : Value} {x : Int32} {S : List Value} {Z : gZ} {I : gI} {J : gJ} : g_at 144 159 [l0, l1, l2, .int x] S Z I J = g_at 144 160 [l0, l1, l2, .int x] (.int x :: S) Z I J := gq_iload e_144_159 rfl
set_option maxRecDepth 100000 in
theorem e_144_160 : g_Pg 144 160 = ga_push (.int 2) 161 := (congrFun pg_144 160).trans rfl
theorem q_144_160 {L : List Value} {S : List Value} {Z : gZ} {I : gI} {J : gJ} : g_at 144 160 L S Z I J = g_at 144 161 L (.int 2 :: S) Z I J := gq_push e_144_160
set_option maxRecDepth 100000 in
theorem e_144_161 : g_Pg 144 161 = ga_bin (fun x y => x + y) 162 := (congrFun pg_144 161).trans rfl
theorem q_144_161 {L : List Value} {x y : Int32} {S : List Value} {Z : gZ} {I : gI} {J : gJ} : g_at 144 161 L (.int y :: .int x :: S) Z I J = g_at 144 162 L (.int (x + y) :: S) Z I J := gq_bin e_144_161
set_option maxRecDepth 100000 in
theorem e_144_162 : g_Pg 144 162 = ga_iald 163 := (congrFun pg_144 162).trans rfl
theorem q_144_162 {L : List Value} {a : Nat} {i : Int32} {S : List Value} {Z : gZ} {I : gI} {J : gJ} (h : gTg8 (gKd Z a).1 a = true) (h0 : 0 ≤ i) (h1 : i.toNatClampNeg < (gKd Z a).2) : g_at 144 162 L (.int i :: .ref a :: S) Z I J = g_at 144 163 L (.int (I a i.toNatClampNeg) :: S) Z I J := gq_iald e_144_162 h h0 h1
set_option maxRecDepth 100000 in
theorem e_144_163 : g_Pg 144 163 = ga_i2l 164 := (congrFun pg_144 163).trans rfl
theorem q_144_163 {L : List Value} {x : Int32} {S : List Value} {Z : gZ} {I : gI} {J : gJ} : g_at 144 163 L (.int x :: S) Z I J = g_at 144 164 L (.long x.toInt64 :: S) Z I J := gq_i2l e_144_163
set_option maxRecDepth 100000 in
theorem e_144_164 : g_Pg 144 164 = ga_push (.long 4294967295) 167 := (congrFun pg_144 164).trans rfl
theorem q_144_164 {L : List Value} {S : List Value} {Z : gZ} {I : gI} {J : gJ} : g_at 144 164 L S Z I J = g_at 144 167 L (.long 4294967295 :: S) Z I J := gq_push e_144_164
set_option maxRecDepth 100000 in
theorem e_144_167 : g_Pg 144 167 = ga_lbin (fun x y => x &&& y) 168 := (congrFun pg_144 167).trans rfl
theorem q_144_167 {L : List Value} {x y : Int64} {S : List Value} {Z : gZ} {I : gI} {J : gJ} : g_at 144 167 L (.long y :: .long x :: S) Z I J = g_at 144 168 L (.long (x &&& y) :: S) Z I J := gq_lbin e_144_167
set_option maxRecDepth 100000 in
theorem e_144_168 : g_Pg 144 168 = ga_lbin (fun x y => x ||| y) 169 := (congrFun pg_144 168).trans rfl
theorem q_144_168 {L : List Value} {x y : Int64} {S : List Value} {Z : gZ} {I : gI} {J : gJ} : g_at 144 168 L (.long y :: .long x :: S) Z I J = g_at 144 169 L (.long (x ||| y) :: S) Z I J := gq_lbin e_144_168
set_option maxRecDepth 100000 in
theorem e_144_169 : g_Pg 144 169 = ga_aload 0 170 := (congrFun pg_144 169).trans rfl
theorem q_144_169 {l1 l2 l3 : Value} {x : Nat} {S : List Value} {Z : gZ} {I : gI} {J : gJ} : g_at 144 169 [.ref x, l1, l2, l3] S Z I J = g_at 144 170 [.ref x, l1, l2, l3] (.ref x :: S) Z I J := gq_aload e_144_169 rfl
set_option maxRecDepth 100000 in
theorem e_144_170 : g_Pg 144 170 = ga_iload 3 171 := (congrFun pg_144 170).trans rfl
theorem q_144_170 {l0 l1 l2 : Value} {x : Int32} {S : List Value} {Z : gZ} {I : gI} {J : gJ} : g_at 144 170 [l0, l1, l2, .int x] S Z I J = g_at 144 171 [l0, l1, l2, .int x] (.int x :: S) Z I J := gq_iload e_144_170 rfl
set_option maxRecDepth 100000 in
theorem e_144_171 : g_Pg 144 171 = ga_push (.int 3) 172 := (congrFun pg_144 171).trans rfl
theorem q_144_171 {L : List Value} {S : List Value} {Z : gZ} {I : gI} {J : gJ} : g_at 144 171 L S Z I J = g_at 144 172 L (.int 3 :: S) Z I J := gq_push e_144_171
set_option maxRecDepth 100000 in
theorem e_144_172 : g_Pg 144 172 = ga_bin (fun x y => x + y) 173 := (congrFun pg_144 172).trans rfl
theorem q_144_172 {L : List Value} {x y : Int32} {S : List Value} {Z : gZ} {I : gI} {J : gJ} : g_at 144 172 L (.int y :: .int x :: S) Z I J = g_at 144 173 L (.int (x + y) :: S) Z I J := gq_bin e_144_172
set_option maxRecDepth 100000 in
theorem e_144_173 : g_Pg 144 173 = ga_iald 174 := (congrFun pg_144 173).trans rfl
theorem q_144_173 {L : List Value} {a : Nat} {i : Int32} {S : List Value} {Z : gZ} {I : gI} {J : gJ} (h : gTg8 (gKd Z a).1 a = true) (h0 : 0 ≤ i) (h1 : i.toNatClampNeg < (gKd Z a).2) : g_at 144 173 L (.int i :: .ref a :: S) Z I J = g_at 144 174 L (.int (I a i.toNatClampNeg) :: S) Z I J := gq_iald e_144_173 h h0 h1
set_option maxRecDepth 100000 in
theorem e_144_174 : g_Pg 144 174 = ga_callV 6 53 2 177 := (congrFun pg_144 174).trans rfl
theorem q_144_174 {L : List Value} {a0 : Int32} {a1 : Int64} {a2 : Nat} {Z : gZ} {I : gI} {J : gJ} (h : (gKd Z a2).1 = 6) : g_at 144 174 L [.int a0, .long a1, .ref a2] Z I J = (g_at 53 0 [.ref a2, .long a1, .null, .int a0, .null] [] Z I J).bind (fun r => g_at 144 177 L (r.1.toList ++ []) r.2.1 r.2.2.1 r.2.2.2) := gq_callV e_144_174 rfl rfl h rfl rfl rfl rfl rfl
set_option maxRecDepth 100000 in
theorem e_144_177 : g_Pg 144 177 = ga_aload 2 178 := (congrFun pg_144 177).trans rfl
theorem q_144_177 {l0 l1 l3 : Value} {x : Nat} {S : List Value} {Z : gZ} {I : gI} {J : gJ} : g_at 144 177 [l0, l1, .ref x, l3] S Z I J = g_at 144 178 [l0, l1, .ref x, l3] (.ref x :: S) Z I J := gq_aload e_144_177 rfl
set_option maxRecDepth 100000 in
theorem e_144_178 : g_Pg 144 178 = ga_aload 0 179 := (congrFun pg_144 178).trans rfl
theorem q_144_178 {l1 l2 l3 : Value} {x : Nat} {S : List Value} {Z : gZ} {I : gI} {J : gJ} : g_at 144 178 [.ref x, l1, l2, l3] S Z I J = g_at 144 179 [.ref x, l1, l2, l3] (.ref x :: S) Z I J := gq_aload e_144_178 rfl
set_option maxRecDepth 100000 in
theorem e_144_179 : g_Pg 144 179 = ga_iload 3 180 := (congrFun pg_144 179).trans rfl
theorem q_144_179 {l0 l1 l2 : Value} {x : Int32} {S : List Value} {Z : gZ} {I : gI} {J : gJ} : g_at 144 179 [l0, l1, l2, .int x] S Z I J = g_at 144 180 [l0, l1, l2, .int x] (.int x :: S) Z I J := gq_iload e_144_179 rfl
set_option maxRecDepth 100000 in
theorem e_144_180 : g_Pg 144 180 = ga_push (.int 1) 181 := (congrFun pg_144 180).trans rfl
theorem q_144_180 {L : List Value} {S : List Value} {Z : gZ} {I : gI} {J : gJ} : g_at 144 180 L S Z I J = g_at 144 181 L (.int 1 :: S) Z I J := gq_push e_144_180
set_option maxRecDepth 100000 in
theorem e_144_181 : g_Pg 144 181 = ga_bin (fun x y => x + y) 182 := (congrFun pg_144 181).trans rfl
theorem q_144_181 {L : List Value} {x y : Int32} {S : List Value} {Z : gZ} {I : gI} {J : gJ} : g_at 144 181 L (.int y :: .int x :: S) Z I J = g_at 144 182 L (.int (x + y) :: S) Z I J := gq_bin e_144_181
set_option maxRecDepth 100000 in
theorem e_144_182 : g_Pg 144 182 = ga_iald 183 := (congrFun pg_144 182).trans rfl
theorem q_144_182 {L : List Value} {a : Nat} {i : Int32} {S : List Value} {Z : gZ} {I : gI} {J : gJ} (h : gTg8 (gKd Z a).1 a = true) (h0 : 0 ≤ i) (h1 : i.toNatClampNeg < (gKd Z a).2) : g_at 144 182 L (.int i :: .ref a :: S) Z I J = g_at 144 183 L (.int (I a i.toNatClampNeg) :: S) Z I J := gq_iald e_144_182 h h0 h1
set_option maxRecDepth 100000 in
theorem e_144_183 : g_Pg 144 183 = ga_i2l 184 := (congrFun pg_144 183).trans rfl
theorem q_144_183 {L : List Value} {x : Int32} {S : List Value} {Z : gZ} {I : gI} {J : gJ} : g_at 144 183 L (.int x :: S) Z I J = g_at 144 184 L (.long x.toInt64 :: S) Z I J := gq_i2l e_144_183
set_option maxRecDepth 100000 in
theorem e_144_184 : g_Pg 144 184 = ga_push (.int 32) 186 := (congrFun pg_144 184).trans rfl
theorem q_144_184 {L : List Value} {S : List Value} {Z : gZ} {I : gI} {J : gJ} : g_at 144 184 L S Z I J = g_at 144 186 L (.int 32 :: S) Z I J := gq_push e_144_184
set_option maxRecDepth 100000 in
theorem e_144_186 : g_Pg 144 186 = ga_lsh (fun x y => x <<< (y.toInt64 &&& 63)) 187 := (congrFun pg_144 186).trans rfl
theorem q_144_186 {L : List Value} {x : Int64} {y : Int32} {S : List Value} {Z : gZ} {I : gI} {J : gJ} : g_at 144 186 L (.int y :: .long x :: S) Z I J = g_at 144 187 L (.long (x <<< (y.toInt64 &&& 63)) :: S) Z I J := gq_lsh e_144_186
set_option maxRecDepth 100000 in
theorem e_144_187 : g_Pg 144 187 = ga_aload 0 188 := (congrFun pg_144 187).trans rfl
theorem q_144_187 {l1 l2 l3 : Value} {x : Nat} {S : List Value} {Z : gZ} {I : gI} {J : gJ} : g_at 144 187 [.ref x, l1, l2, l3] S Z I J = g_at 144 188 [.ref x, l1, l2, l3] (.ref x :: S) Z I J := gq_aload e_144_187 rfl
set_option maxRecDepth 100000 in
theorem e_144_188 : g_Pg 144 188 = ga_iload 3 189 := (congrFun pg_144 188).trans rfl
theorem q_144_188 {l0 l1 l2 : Value} {x : Int32} {S : List Value} {Z : gZ} {I : gI} {J : gJ} : g_at 144 188 [l0, l1, l2, .int x] S Z I J = g_at 144 189 [l0, l1, l2, .int x] (.int x :: S) Z I J := gq_iload e_144_188 rfl
set_option maxRecDepth 100000 in
theorem e_144_189 : g_Pg 144 189 = ga_push (.int 2) 190 := (congrFun pg_144 189).trans rfl
theorem q_144_189 {L : List Value} {S : List Value} {Z : gZ} {I : gI} {J : gJ} : g_at 144 189 L S Z I J = g_at 144 190 L (.int 2 :: S) Z I J := gq_push e_144_189
set_option maxRecDepth 100000 in
theorem e_144_190 : g_Pg 144 190 = ga_bin (fun x y => x + y) 191 := (congrFun pg_144 190).trans rfl
theorem q_144_190 {L : List Value} {x y : Int32} {S : List Value} {Z : gZ} {I : gI} {J : gJ} : g_at 144 190 L (.int y :: .int x :: S) Z I J = g_at 144 191 L (.int (x + y) :: S) Z I J := gq_bin e_144_190
set_option maxRecDepth 100000 in
theorem e_144_191 : g_Pg 144 191 = ga_iald 192 := (congrFun pg_144 191).trans rfl
theorem q_144_191 {L : List Value} {a : Nat} {i : Int32} {S : List Value} {Z : gZ} {I : gI} {J : gJ} (h : gTg8 (gKd Z a).1 a = true) (h0 : 0 ≤ i) (h1 : i.toNatClampNeg < (gKd Z a).2) : g_at 144 191 L (.int i :: .ref a :: S) Z I J = g_at 144 192 L (.int (I a i.toNatClampNeg) :: S) Z I J := gq_iald e_144_191 h h0 h1
set_option maxRecDepth 100000 in
theorem e_144_192 : g_Pg 144 192 = ga_i2l 193 := (congrFun pg_144 192).trans rfl
theorem q_144_192 {L : List Value} {x : Int32} {S : List Value} {Z : gZ} {I : gI} {J : gJ} : g_at 144 192 L (.int x :: S) Z I J = g_at 144 193 L (.long x.toInt64 :: S) Z I J := gq_i2l e_144_192
set_option maxRecDepth 100000 in
theorem e_144_193 : g_Pg 144 193 = ga_push (.long 4294967295) 196 := (congrFun pg_144 193).trans rfl
theorem q_144_193 {L : List Value} {S : List Value} {Z : gZ} {I : gI} {J : gJ} : g_at 144 193 L S Z I J = g_at 144 196 L (.long 4294967295 :: S) Z I J := gq_push e_144_193
set_option maxRecDepth 100000 in
theorem e_144_196 : g_Pg 144 196 = ga_lbin (fun x y => x &&& y) 197 := (congrFun pg_144 196).trans rfl
theorem q_144_196 {L : List Value} {x y : Int64} {S : List Value} {Z : gZ} {I : gI} {J : gJ} : g_at 144 196 L (.long y :: .long x :: S) Z I J = g_at 144 197 L (.long (x &&& y) :: S) Z I J := gq_lbin e_144_196
set_option maxRecDepth 100000 in
theorem e_144_197 : g_Pg 144 197 = ga_lbin (fun x y => x ||| y) 198 := (congrFun pg_144 197).trans rfl
theorem q_144_197 {L : List Value} {x y : Int64} {S : List Value} {Z : gZ} {I : gI} {J : gJ} : g_at 144 197 L (.long y :: .long x :: S) Z I J = g_at 144 198 L (.long (x ||| y) :: S) Z I J := gq_lbin e_144_197
set_option maxRecDepth 100000 in
theorem e_144_198 : g_Pg 144 198 = ga_aload 0 199 := (congrFun pg_144 198).trans rfl
theorem q_144_198 {l1 l2 l3 : Value} {x : Nat} {S : List Value} {Z : gZ} {I : gI} {J : gJ} : g_at 144 198 [.ref x, l1, l2, l3] S Z I J = g_at 144 199 [.ref x, l1, l2, l3] (.ref x :: S) Z I J := gq_aload e_144_198 rfl
set_option maxRecDepth 100000 in
theorem e_144_199 : g_Pg 144 199 = ga_iload 3 200 := (congrFun pg_144 199).trans rfl
theorem q_144_199 {l0 l1 l2 : Value} {x : Int32} {S : List Value} {Z : gZ} {I : gI} {J : gJ} : g_at 144 199 [l0, l1, l2, .int x] S Z I J = g_at 144 200 [l0, l1, l2, .int x] (.int x :: S) Z I J := gq_iload e_144_199 rfl
set_option maxRecDepth 100000 in
theorem e_144_200 : g_Pg 144 200 = ga_push (.int 3) 201 := (congrFun pg_144 200).trans rfl
theorem q_144_200 {L : List Value} {S : List Value} {Z : gZ} {I : gI} {J : gJ} : g_at 144 200 L S Z I J = g_at 144 201 L (.int 3 :: S) Z I J := gq_push e_144_200
set_option maxRecDepth 100000 in
theorem e_144_201 : g_Pg 144 201 = ga_bin (fun x y => x + y) 202 := (congrFun pg_144 201).trans rfl
theorem q_144_201 {L : List Value} {x y : Int32} {S : List Value} {Z : gZ} {I : gI} {J : gJ} : g_at 144 201 L (.int y :: .int x :: S) Z I J = g_at 144 202 L (.int (x + y) :: S) Z I J := gq_bin e_144_201
set_option maxRecDepth 100000 in
theorem e_144_202 : g_Pg 144 202 = ga_iald 203 := (congrFun pg_144 202).trans rfl
theorem q_144_202 {L : List Value} {a : Nat} {i : Int32} {S : List Value} {Z : gZ} {I : gI} {J : gJ} (h : gTg8 (gKd Z a).1 a = true) (h0 : 0 ≤ i) (h1 : i.toNatClampNeg < (gKd Z a).2) : g_at 144 202 L (.int i :: .ref a :: S) Z I J = g_at 144 203 L (.int (I a i.toNatClampNeg) :: S) Z I J := gq_iald e_144_202 h h0 h1
set_option maxRecDepth 100000 in
theorem e_144_203 : g_Pg 144 203 = ga_callV 7 87 2 206 := (congrFun pg_144 203).trans rfl
theorem q_144_203 {L : List Value} {a0 : Int32} {a1 : Int64} {a2 : Nat} {r3 : Int32} {Z : gZ} {I : gI} {J : gJ} (h : (gKd Z a2).1 = 7) : g_at 144 203 L [.int a0, .long a1, .ref a2, .int r3] Z I J = (g_at 87 0 [.ref a2, .long a1, .null, .int a0, .null] [] Z I J).bind (fun r => g_at 144 206 L (r.1.toList ++ [.int r3]) r.2.1 r.2.2.1 r.2.2.2) := gq_callV e_144_203 rfl rfl h rfl rfl rfl rfl rfl
set_option maxRecDepth 100000 in
theorem e_144_206 : g_Pg 144 206 = ga_cmp (fun x y => decide (x = y)) 893 209 := (congrFun pg_144 206).trans rfl
theorem q_144_206 {L : List Value} {x y : Int32} {S : List Value} {Z : gZ} {I : gI} {J : gJ} : g_at 144 206 L (.int y :: .int x :: S) Z I J = if x = y then g_at 144 893 L S Z I J else g_at 144 209 L S Z I J := gq_cmp e_144_206 rfl
set_option maxRecDepth 100000 in
theorem e_144_209 : g_Pg 144 209 = ga_push (.int 0) 210 := (congrFun pg_144 209).trans rfl
theorem q_144_209 {L : List Value} {S : List Value} {Z : gZ} {I : gI} {J : gJ} : g_at 144 209 L S Z I J = g_at 144 210 L (.int 0 :: S) Z I J := gq_push e_144_209
set_option maxRecDepth 100000 in
theorem e_144_210 : g_Pg 144 210 = ga_zret := (congrFun pg_144 210).trans rfl
theorem q_144_210 {L : List Value} {x : Int32} {Z : gZ} {I : gI} {J : gJ} (h : gB01 x = true) : g_at 144 210 L [.int x] Z I J = some (some (.int x), Z, I, J) := gq_zret e_144_210 h
set_option maxRecDepth 100000 in
theorem e_144_211 : g_Pg 144 211 = ga_aload 1 212 := (congrFun pg_144 211).trans rfl
theorem q_144_211 {l0 l2 l3 : Value} {x : Nat} {S : List Value} {Z : gZ} {I : gI} {J : gJ} : g_at 144 211 [l0, .ref x, l2, l3] S Z I J = g_at 144 212 [l0, .ref x, l2, l3] (.ref x :: S) Z I J := gq_aload e_144_211 rfl
set_option maxRecDepth 100000 in
theorem e_144_212 : g_Pg 144 212 = ga_callV 6 54 0 215 := (congrFun pg_144 212).trans rfl
theorem q_144_212 {L : List Value} {a0 : Nat} {Z : gZ} {I : gI} {J : gJ} (h : (gKd Z a0).1 = 6) : g_at 144 212 L [.ref a0] Z I J = (g_at 54 0 [.ref a0, .null] [] Z I J).bind (fun r => g_at 144 215 L (r.1.toList ++ []) r.2.1 r.2.2.1 r.2.2.2) := gq_callV e_144_212 rfl rfl h rfl rfl rfl rfl rfl
set_option maxRecDepth 100000 in
theorem e_144_215 : g_Pg 144 215 = ga_aload 2 216 := (congrFun pg_144 215).trans rfl
theorem q_144_215 {l0 l1 l3 : Value} {x : Nat} {S : List Value} {Z : gZ} {I : gI} {J : gJ} : g_at 144 215 [l0, l1, .ref x, l3] S Z I J = g_at 144 216 [l0, l1, .ref x, l3] (.ref x :: S) Z I J := gq_aload e_144_215 rfl
set_option maxRecDepth 100000 in
theorem e_144_216 : g_Pg 144 216 = ga_callV 7 88 0 219 := (congrFun pg_144 216).trans rfl
theorem q_144_216 {L : List Value} {a0 : Nat} {r1 : Int32} {Z : gZ} {I : gI} {J : gJ} (h : (gKd Z a0).1 = 7) : g_at 144 216 L [.ref a0, .int r1] Z I J = (g_at 88 0 [.ref a0, .null] [] Z I J).bind (fun r => g_at 144 219 L (r.1.toList ++ [.int r1]) r.2.1 r.2.2.1 r.2.2.2) := gq_callV e_144_216 rfl rfl h rfl rfl rfl rfl rfl
set_option maxRecDepth 100000 in
theorem e_144_219 : g_Pg 144 219 = ga_cmp (fun x y => decide (x = y)) 893 222 := (congrFun pg_144 219).trans rfl
theorem q_144_219 {L : List Value} {x y : Int32} {S : List Value} {Z : gZ} {I : gI} {J : gJ} : g_at 144 219 L (.int y :: .int x :: S) Z I J = if x = y then g_at 144 893 L S Z I J else g_at 144 222 L S Z I J := gq_cmp e_144_219 rfl
set_option maxRecDepth 100000 in
theorem e_144_222 : g_Pg 144 222 = ga_push (.int 0) 223 := (congrFun pg_144 222).trans rfl
theorem q_144_222 {L : List Value} {S : List Value} {Z : gZ} {I : gI} {J : gJ} : g_at 144 222 L S Z I J = g_at 144 223 L (.int 0 :: S) Z I J := gq_push e_144_222
set_option maxRecDepth 100000 in
theorem e_144_223 : g_Pg 144 223 = ga_zret := (congrFun pg_144 223).trans rfl
theorem q_144_223 {L : List Value} {x : Int32} {Z : gZ} {I : gI} {J : gJ} (h : gB01 x = true) : g_at 144 223 L [.int x] Z I J = some (some (.int x), Z, I, J) := gq_zret e_144_223 h
set_option maxRecDepth 100000 in
theorem e_144_224 : g_Pg 144 224 = ga_aload 1 225 := (congrFun pg_144 224).trans rfl
theorem q_144_224 {l0 l2 l3 : Value} {x : Nat} {S : List Value} {Z : gZ} {I : gI} {J : gJ} : g_at 144 224 [l0, .ref x, l2, l3] S Z I J = g_at 144 225 [l0, .ref x, l2, l3] (.ref x :: S) Z I J := gq_aload e_144_224 rfl
set_option maxRecDepth 100000 in
theorem e_144_225 : g_Pg 144 225 = ga_callV 6 55 0 228 := (congrFun pg_144 225).trans rfl
theorem q_144_225 {L : List Value} {a0 : Nat} {Z : gZ} {I : gI} {J : gJ} (h : (gKd Z a0).1 = 6) : g_at 144 225 L [.ref a0] Z I J = (g_at 55 0 [.ref a0] [] Z I J).bind (fun r => g_at 144 228 L (r.1.toList ++ []) r.2.1 r.2.2.1 r.2.2.2) := gq_callV e_144_225 rfl rfl h rfl rfl rfl rfl rfl
set_option maxRecDepth 100000 in
theorem e_144_228 : g_Pg 144 228 = ga_aload 2 229 := (congrFun pg_144 228).trans rfl
theorem q_144_228 {l0 l1 l3 : Value} {x : Nat} {S : List Value} {Z : gZ} {I : gI} {J : gJ} : g_at 144 228 [l0, l1, .ref x, l3] S Z I J = g_at 144 229 [l0, l1, .ref x, l3] (.ref x :: S) Z I J := gq_aload e_144_228 rfl
set_option maxRecDepth 100000 in
theorem e_144_229 : g_Pg 144 229 = ga_callV 7 96 0 232 := (congrFun pg_144 229).trans rfl
theorem q_144_229 {L : List Value} {a0 : Nat} {r1 : Int32} {Z : gZ} {I : gI} {J : gJ} (h : (gKd Z a0).1 = 7) : g_at 144 229 L [.ref a0, .int r1] Z I J = (g_at 96 0 [.ref a0] [] Z I J).bind (fun r => g_at 144 232 L (r.1.toList ++ [.int r1]) r.2.1 r.2.2.1 r.2.2.2) := gq_callV e_144_229 rfl rfl h rfl rfl rfl rfl rfl
set_option maxRecDepth 100000 in
theorem e_144_232 : g_Pg 144 232 = ga_cmp (fun x y => decide (x = y)) 893 235 := (congrFun pg_144 232).trans rfl
theorem q_144_232 {L : List Value} {x y : Int32} {S : List Value} {Z : gZ} {I : gI} {J : gJ} : g_at 144 232 L (.int y :: .int x :: S) Z I J = if x = y then g_at 144 893 L S Z I J else g_at 144 235 L S Z I J := gq_cmp e_144_232 rfl
set_option maxRecDepth 100000 in
theorem e_144_235 : g_Pg 144 235 = ga_push (.int 0) 236 := (congrFun pg_144 235).trans rfl
theorem q_144_235 {L : List Value} {S : List Value} {Z : gZ} {I : gI} {J : gJ} : g_at 144 235 L S Z I J = g_at 144 236 L (.int 0 :: S) Z I J := gq_push e_144_235
set_option maxRecDepth 100000 in
theorem e_144_236 : g_Pg 144 236 = ga_zret := (congrFun pg_144 236).trans rfl
theorem q_144_236 {L : List Value} {x : Int32} {Z : gZ} {I : gI} {J : gJ} (h : gB01 x = true) : g_at 144 236 L [.int x] Z I J = some (some (.int x), Z, I, J) := gq_zret e_144_236 h
set_option maxRecDepth 100000 in
theorem e_144_237 : g_Pg 144 237 = ga_aload 1 238 := (congrFun pg_144 237).trans rfl
theorem q_144_237 {l0 l2 l3 : Value} {x : Nat} {S : List Value} {Z : gZ} {I : gI} {J : gJ} : g_at 144 237 [l0, .ref x, l2, l3] S Z I J = g_at 144 238 [l0, .ref x, l2, l3] (.ref x :: S) Z I J := gq_aload e_144_237 rfl
set_option maxRecDepth 100000 in
theorem e_144_238 : g_Pg 144 238 = ga_callV 6 56 0 241 := (congrFun pg_144 238).trans rfl
theorem q_144_238 {L : List Value} {a0 : Nat} {Z : gZ} {I : gI} {J : gJ} (h : (gKd Z a0).1 = 6) : g_at 144 238 L [.ref a0] Z I J = (g_at 56 0 [.ref a0, .null] [] Z I J).bind (fun r => g_at 144 241 L (r.1.toList ++ []) r.2.1 r.2.2.1 r.2.2.2) := gq_callV e_144_238 rfl rfl h rfl rfl rfl rfl rfl
set_option maxRecDepth 100000 in
theorem e_144_241 : g_Pg 144 241 = ga_aload 2 242 := (congrFun pg_144 241).trans rfl
theorem q_144_241 {l0 l1 l3 : Value} {x : Nat} {S : List Value} {Z : gZ} {I : gI} {J : gJ} : g_at 144 241 [l0, l1, .ref x, l3] S Z I J = g_at 144 242 [l0, l1, .ref x, l3] (.ref x :: S) Z I J := gq_aload e_144_241 rfl
set_option maxRecDepth 100000 in
theorem e_144_242 : g_Pg 144 242 = ga_callV 7 98 0 245 := (congrFun pg_144 242).trans rfl
theorem q_144_242 {L : List Value} {a0 : Nat} {r1 : Int32} {Z : gZ} {I : gI} {J : gJ} (h : (gKd Z a0).1 = 7) : g_at 144 242 L [.ref a0, .int r1] Z I J = (g_at 98 0 [.ref a0, .null] [] Z I J).bind (fun r => g_at 144 245 L (r.1.toList ++ [.int r1]) r.2.1 r.2.2.1 r.2.2.2) := gq_callV e_144_242 rfl rfl h rfl rfl rfl rfl rfl
set_option maxRecDepth 100000 in
theorem e_144_245 : g_Pg 144 245 = ga_cmp (fun x y => decide (x = y)) 893 248 := (congrFun pg_144 245).trans rfl
theorem q_144_245 {L : List Value} {x y : Int32} {S : List Value} {Z : gZ} {I : gI} {J : gJ} : g_at 144 245 L (.int y :: .int x :: S) Z I J = if x = y then g_at 144 893 L S Z I J else g_at 144 248 L S Z I J := gq_cmp e_144_245 rfl
set_option maxRecDepth 100000 in
theorem e_144_248 : g_Pg 144 248 = ga_push (.int 0) 249 := (congrFun pg_144 248).trans rfl
theorem q_144_248 {L : List Value} {S : List Value} {Z : gZ} {I : gI} {J : gJ} : g_at 144 248 L S Z I J = g_at 144 249 L (.int 0 :: S) Z I J := gq_push e_144_248
set_option maxRecDepth 100000 in
theorem e_144_249 : g_Pg 144 249 = ga_zret := (congrFun pg_144 249).trans rfl
theorem q_144_249 {L : List Value} {x : Int32} {Z : gZ} {I : gI} {J : gJ} (h : gB01 x = true) : g_at 144 249 L [.int x] Z I J = some (some (.int x), Z, I, J) := gq_zret e_144_249 h
set_option maxRecDepth 100000 in
theorem e_144_250 : g_Pg 144 250 = ga_aload 1 251 := (congrFun pg_144 250).trans rfl
theorem q_144_250 {l0 l2 l3 : Value} {x : Nat} {S : List Value} {Z : gZ} {I : gI} {J : gJ} : g_at 144 250 [l0, .ref x, l2, l3] S Z I J = g_at 144 251 [l0, .ref x, l2, l3] (.ref x :: S) Z I J := gq_aload e_144_250 rfl
set_option maxRecDepth 100000 in
theorem e_144_251 : g_Pg 144 251 = ga_aload 0 252 := (congrFun pg_144 251).trans rfl
theorem q_144_251 {l1 l2 l3 : Value} {x : Nat} {S : List Value} {Z : gZ} {I : gI} {J : gJ} : g_at 144 251 [.ref x, l1, l2, l3] S Z I J = g_at 144 252 [.ref x, l1, l2, l3] (.ref x :: S) Z I J := gq_aload e_144_251 rfl
set_option maxRecDepth 100000 in
theorem e_144_252 : g_Pg 144 252 = ga_iload 3 253 := (congrFun pg_144 252).trans rfl
theorem q_144_252 {l0 l1 l2 : Value} {x : Int32} {S : List Value} {Z : gZ} {I : gI} {J : gJ} : g_at 144 252 [l0, l1, l2, .int x] S Z I J = g_at 144 253 [l0, l1, l2, .int x] (.int x :: S) Z I J := gq_iload e_144_252 rfl
set_option maxRecDepth 100000 in
theorem e_144_253 : g_Pg 144 253 = ga_push (.int 1) 254 := (congrFun pg_144 253).trans rfl
theorem q_144_253 {L : List Value} {S : List Value} {Z : gZ} {I : gI} {J : gJ} : g_at 144 253 L S Z I J = g_at 144 254 L (.int 1 :: S) Z I J := gq_push e_144_253
set_option maxRecDepth 100000 in
theorem e_144_254 : g_Pg 144 254 = ga_bin (fun x y => x + y) 255 := (congrFun pg_144 254).trans rfl
theorem q_144_254 {L : List Value} {x y : Int32} {S : List Value} {Z : gZ} {I : gI} {J : gJ} : g_at 144 254 L (.int y :: .int x :: S) Z I J = g_at 144 255 L (.int (x + y) :: S) Z I J := gq_bin e_144_254
set_option maxRecDepth 100000 in
theorem e_144_255 : g_Pg 144 255 = ga_iald 256 := (congrFun pg_144 255).trans rfl
theorem q_144_255 {L : List Value} {a : Nat} {i : Int32} {S : List Value} {Z : gZ} {I : gI} {J : gJ} (h : gTg8 (gKd Z a).1 a = true) (h0 : 0 ≤ i) (h1 : i.toNatClampNeg < (gKd Z a).2) : g_at 144 255 L (.int i :: .ref a :: S) Z I J = g_at 144 256 L (.int (I a i.toNatClampNeg) :: S) Z I J := gq_iald e_144_255 h h0 h1
set_option maxRecDepth 100000 in
theorem e_144_256 : g_Pg 144 256 = ga_aload 0 257 := (congrFun pg_144 256).trans rfl
theorem q_144_256 {l1 l2 l3 : Value} {x : Nat} {S : List Value} {Z : gZ} {I : gI} {J : gJ} : g_at 144 256 [.ref x, l1, l2, l3] S Z I J = g_at 144 257 [.ref x, l1, l2, l3] (.ref x :: S) Z I J := gq_aload e_144_256 rfl
set_option maxRecDepth 100000 in
theorem e_144_257 : g_Pg 144 257 = ga_iload 3 258 := (congrFun pg_144 257).trans rfl
theorem q_144_257 {l0 l1 l2 : Value} {x : Int32} {S : List Value} {Z : gZ} {I : gI} {J : gJ} : g_at 144 257 [l0, l1, l2, .int x] S Z I J = g_at 144 258 [l0, l1, l2, .int x] (.int x :: S) Z I J := gq_iload e_144_257 rfl
set_option maxRecDepth 100000 in
theorem e_144_258 : g_Pg 144 258 = ga_push (.int 2) 259 := (congrFun pg_144 258).trans rfl
theorem q_144_258 {L : List Value} {S : List Value} {Z : gZ} {I : gI} {J : gJ} : g_at 144 258 L S Z I J = g_at 144 259 L (.int 2 :: S) Z I J := gq_push e_144_258
set_option maxRecDepth 100000 in
theorem e_144_259 : g_Pg 144 259 = ga_bin (fun x y => x + y) 260 := (congrFun pg_144 259).trans rfl
theorem q_144_259 {L : List Value} {x y : Int32} {S : List Value} {Z : gZ} {I : gI} {J : gJ} : g_at 144 259 L (.int y :: .int x :: S) Z I J = g_at 144 260 L (.int (x + y) :: S) Z I J := gq_bin e_144_259
set_option maxRecDepth 100000 in
theorem e_144_260 : g_Pg 144 260 = ga_iald 261 := (congrFun pg_144 260).trans rfl
theorem q_144_260 {L : List Value} {a : Nat} {i : Int32} {S : List Value} {Z : gZ} {I : gI} {J : gJ} (h : gTg8 (gKd Z a).1 a = true) (h0 : 0 ≤ i) (h1 : i.toNatClampNeg < (gKd Z a).2) : g_at 144 260 L (.int i :: .ref a :: S) Z I J = g_at 144 261 L (.int (I a i.toNatClampNeg) :: S) Z I J := gq_iald e_144_260 h h0 h1
set_option maxRecDepth 100000 in
theorem e_144_261 : g_Pg 144 261 = ga_callV 6 57 2 264 := (congrFun pg_144 261).trans rfl
theorem q_144_261 {L : List Value} {a0 : Int32} {a1 : Int32} {a2 : Nat} {Z : gZ} {I : gI} {J : gJ} (h : (gKd Z a2).1 = 6) : g_at 144 261 L [.int a0, .int a1, .ref a2] Z I J = (g_at 57 0 [.ref a2, .int a1, .int a0] [] Z I J).bind (fun r => g_at 144 264 L (r.1.toList ++ []) r.2.1 r.2.2.1 r.2.2.2) := gq_callV e_144_261 rfl rfl h rfl rfl rfl rfl rfl
set_option maxRecDepth 100000 in
theorem e_144_264 : g_Pg 144 264 = ga_aload 2 265 := (congrFun pg_144 264).trans rfl
theorem q_144_264 {l0 l1 l3 : Value} {x : Nat} {S : List Value} {Z : gZ} {I : gI} {J : gJ} : g_at 144 264 [l0, l1, .ref x, l3] S Z I J = g_at 144 265 [l0, l1, .ref x, l3] (.ref x :: S) Z I J := gq_aload e_144_264 rfl
set_option maxRecDepth 100000 in
theorem e_144_265 : g_Pg 144 265 = ga_aload 0 266 := (congrFun pg_144 265).trans rfl
theorem q_144_265 {l1 l2 l3 : Value} {x : Nat} {S : List Value} {Z : gZ} {I : gI} {J : gJ} : g_at 144 265 [.ref x, l1, l2, l3] S Z I J = g_at 144 266 [.ref x, l1, l2, l3] (.ref x :: S) Z I J := gq_aload e_144_265 rfl
set_option maxRecDepth 100000 in
theorem e_144_266 : g_Pg 144 266 = ga_iload 3 267 := (congrFun pg_144 266).trans rfl
theorem q_144_266 {l0 l1 l2 : Value} {x : Int32} {S : List Value} {Z : gZ} {I : gI} {J : gJ} : g_at 144 266 [l0, l1, l2, .int x] S Z I J = g_at 144 267 [l0, l1, l2, .int x] (.int x :: S) Z I J := gq_iload e_144_266 rfl
set_option maxRecDepth 100000 in
theorem e_144_267 : g_Pg 144 267 = ga_push (.int 1) 268 := (congrFun pg_144 267).trans rfl
theorem q_144_267 {L : List Value} {S : List Value} {Z : gZ} {I : gI} {J : gJ} : g_at 144 267 L S Z I J = g_at 144 268 L (.int 1 :: S) Z I J := gq_push e_144_267
set_option maxRecDepth 100000 in
theorem e_144_268 : g_Pg 144 268 = ga_bin (fun x y => x + y) 269 := (congrFun pg_144 268).trans rfl
theorem q_144_268 {L : List Value} {x y : Int32} {S : List Value} {Z : gZ} {I : gI} {J : gJ} : g_at 144 268 L (.int y :: .int x :: S) Z I J = g_at 144 269 L (.int (x + y) :: S) Z I J := gq_bin e_144_268
set_option maxRecDepth 100000 in
theorem e_144_269 : g_Pg 144 269 = ga_iald 270 := (congrFun pg_144 269).trans rfl
theorem q_144_269 {L : List Value} {a : Nat} {i : Int32} {S : List Value} {Z : gZ} {I : gI} {J : gJ} (h : gTg8 (gKd Z a).1 a = true) (h0 : 0 ≤ i) (h1 : i.toNatClampNeg < (gKd Z a).2) : g_at 144 269 L (.int i :: .ref a :: S) Z I J = g_at 144 270 L (.int (I a i.toNatClampNeg) :: S) Z I J := gq_iald e_144_269 h h0 h1
set_option maxRecDepth 100000 in
theorem e_144_270 : g_Pg 144 270 = ga_aload 0 271 := (congrFun pg_144 270).trans rfl
theorem q_144_270 {l1 l2 l3 : Value} {x : Nat} {S : List Value} {Z : gZ} {I : gI} {J : gJ} : g_at 144 270 [.ref x, l1, l2, l3] S Z I J = g_at 144 271 [.ref x, l1, l2, l3] (.ref x :: S) Z I J := gq_aload e_144_270 rfl
set_option maxRecDepth 100000 in
theorem e_144_271 : g_Pg 144 271 = ga_iload 3 272 := (congrFun pg_144 271).trans rfl
theorem q_144_271 {l0 l1 l2 : Value} {x : Int32} {S : List Value} {Z : gZ} {I : gI} {J : gJ} : g_at 144 271 [l0, l1, l2, .int x] S Z I J = g_at 144 272 [l0, l1, l2, .int x] (.int x :: S) Z I J := gq_iload e_144_271 rfl
set_option maxRecDepth 100000 in
theorem e_144_272 : g_Pg 144 272 = ga_push (.int 2) 273 := (congrFun pg_144 272).trans rfl
theorem q_144_272 {L : List Value} {S : List Value} {Z : gZ} {I : gI} {J : gJ} : g_at 144 272 L S Z I J = g_at 144 273 L (.int 2 :: S) Z I J := gq_push e_144_272
set_option maxRecDepth 100000 in
theorem e_144_273 : g_Pg 144 273 = ga_bin (fun x y => x + y) 274 := (congrFun pg_144 273).trans rfl
theorem q_144_273 {L : List Value} {x y : Int32} {S : List Value} {Z : gZ} {I : gI} {J : gJ} : g_at 144 273 L (.int y :: .int x :: S) Z I J = g_at 144 274 L (.int (x + y) :: S) Z I J := gq_bin e_144_273
set_option maxRecDepth 100000 in
theorem e_144_274 : g_Pg 144 274 = ga_iald 275 := (congrFun pg_144 274).trans rfl
theorem q_144_274 {L : List Value} {a : Nat} {i : Int32} {S : List Value} {Z : gZ} {I : gI} {J : gJ} (h : gTg8 (gKd Z a).1 a = true) (h0 : 0 ≤ i) (h1 : i.toNatClampNeg < (gKd Z a).2) : g_at 144 274 L (.int i :: .ref a :: S) Z I J = g_at 144 275 L (.int (I a i.toNatClampNeg) :: S) Z I J := gq_iald e_144_274 h h0 h1
set_option maxRecDepth 100000 in
theorem e_144_275 : g_Pg 144 275 = ga_callV 7 101 2 278 := (congrFun pg_144 275).trans rfl
theorem q_144_275 {L : List Value} {a0 : Int32} {a1 : Int32} {a2 : Nat} {r3 : Int32} {Z : gZ} {I : gI} {J : gJ} (h : (gKd Z a2).1 = 7) : g_at 144 275 L [.int a0, .int a1, .ref a2, .int r3] Z I J = (g_at 101 0 [.ref a2, .int a1, .int a0, .null, .null] [] Z I J).bind (fun r => g_at 144 278 L (r.1.toList ++ [.int r3]) r.2.1 r.2.2.1 r.2.2.2) := gq_callV e_144_275 rfl rfl h rfl rfl rfl rfl rfl
set_option maxRecDepth 100000 in
theorem e_144_278 : g_Pg 144 278 = ga_cmp (fun x y => decide (x = y)) 893 281 := (congrFun pg_144 278).trans rfl
theorem q_144_278 {L : List Value} {x y : Int32} {S : List Value} {Z : gZ} {I : gI} {J : gJ} : g_at 144 278 L (.int y :: .int x :: S) Z I J = if x = y then g_at 144 893 L S Z I J else g_at 144 281 L S Z I J := gq_cmp e_144_278 rfl
set_option maxRecDepth 100000 in
theorem e_144_281 : g_Pg 144 281 = ga_push (.int 0) 282 := (congrFun pg_144 281).trans rfl
theorem q_144_281 {L : List Value} {S : List Value} {Z : gZ} {I : gI} {J : gJ} : g_at 144 281 L S Z I J = g_at 144 282 L (.int 0 :: S) Z I J := gq_push e_144_281
set_option maxRecDepth 100000 in
theorem e_144_282 : g_Pg 144 282 = ga_zret := (congrFun pg_144 282).trans rfl
theorem q_144_282 {L : List Value} {x : Int32} {Z : gZ} {I : gI} {J : gJ} (h : gB01 x = true) : g_at 144 282 L [.int x] Z I J = some (some (.int x), Z, I, J) := gq_zret e_144_282 h
set_option maxRecDepth 100000 in
theorem e_144_283 : g_Pg 144 283 = ga_aload 1 284 := (congrFun pg_144 283).trans rfl
theorem q_144_283 {l0 l2 l3 : Value} {x : Nat} {S : List Value} {Z : gZ} {I : gI} {J : gJ} : g_at 144 283 [l0, .ref x, l2, l3] S Z I J = g_at 144 284 [l0, .ref x, l2, l3] (.ref x :: S) Z I J := gq_aload e_144_283 rfl
set_option maxRecDepth 100000 in
theorem e_144_284 : g_Pg 144 284 = ga_aload 0 285 := (congrFun pg_144 284).trans rfl
theorem q_144_284 {l1 l2 l3 : Value} {x : Nat} {S : List Value} {Z : gZ} {I : gI} {J : gJ} : g_at 144 284 [.ref x, l1, l2, l3] S Z I J = g_at 144 285 [.ref x, l1, l2, l3] (.ref x :: S) Z I J := gq_aload e_144_284 rfl
set_option maxRecDepth 100000 in
theorem e_144_285 : g_Pg 144 285 = ga_iload 3 286 := (congrFun pg_144 285).trans rfl
theorem q_144_285 {l0 l1 l2 : Value} {x : Int32} {S : List Value} {Z : gZ} {I : gI} {J : gJ} : g_at 144 285 [l0, l1, l2, .int x] S Z I J = g_at 144 286 [l0, l1, l2, .int x] (.int x :: S) Z I J := gq_iload e_144_285 rfl
set_option maxRecDepth 100000 in
theorem e_144_286 : g_Pg 144 286 = ga_push (.int 1) 287 := (congrFun pg_144 286).trans rfl
theorem q_144_286 {L : List Value} {S : List Value} {Z : gZ} {I : gI} {J : gJ} : g_at 144 286 L S Z I J = g_at 144 287 L (.int 1 :: S) Z I J := gq_push e_144_286
set_option maxRecDepth 100000 in
theorem e_144_287 : g_Pg 144 287 = ga_bin (fun x y => x + y) 288 := (congrFun pg_144 287).trans rfl
theorem q_144_287 {L : List Value} {x y : Int32} {S : List Value} {Z : gZ} {I : gI} {J : gJ} : g_at 144 287 L (.int y :: .int x :: S) Z I J = g_at 144 288 L (.int (x + y) :: S) Z I J := gq_bin e_144_287
set_option maxRecDepth 100000 in
theorem e_144_288 : g_Pg 144 288 = ga_iald 289 := (congrFun pg_144 288).trans rfl
theorem q_144_288 {L : List Value} {a : Nat} {i : Int32} {S : List Value} {Z : gZ} {I : gI} {J : gJ} (h : gTg8 (gKd Z a).1 a = true) (h0 : 0 ≤ i) (h1 : i.toNatClampNeg < (gKd Z a).2) : g_at 144 288 L (.int i :: .ref a :: S) Z I J = g_at 144 289 L (.int (I a i.toNatClampNeg) :: S) Z I J := gq_iald e_144_288 h h0 h1
set_option maxRecDepth 100000 in
theorem e_144_289 : g_Pg 144 289 = ga_aload 0 290 := (congrFun pg_144 289).trans rfl
theorem q_144_289 {l1 l2 l3 : Value} {x : Nat} {S : List Value} {Z : gZ} {I : gI} {J : gJ} : g_at 144 289 [.ref x, l1, l2, l3] S Z I J = g_at 144 290 [.ref x, l1, l2, l3] (.ref x :: S) Z I J := gq_aload e_144_289 rfl
set_option maxRecDepth 100000 in
theorem e_144_290 : g_Pg 144 290 = ga_iload 3 291 := (congrFun pg_144 290).trans rfl
theorem q_144_290 {l0 l1 l2 : Value} {x : Int32} {S : List Value} {Z : gZ} {I : gI} {J : gJ} : g_at 144 290 [l0, l1, l2, .int x] S Z I J = g_at 144 291 [l0, l1, l2, .int x] (.int x :: S) Z I J := gq_iload e_144_290 rfl
set_option maxRecDepth 100000 in
theorem e_144_291 : g_Pg 144 291 = ga_push (.int 2) 292 := (congrFun pg_144 291).trans rfl
theorem q_144_291 {L : List Value} {S : List Value} {Z : gZ} {I : gI} {J : gJ} : g_at 144 291 L S Z I J = g_at 144 292 L (.int 2 :: S) Z I J := gq_push e_144_291
set_option maxRecDepth 100000 in
theorem e_144_292 : g_Pg 144 292 = ga_bin (fun x y => x + y) 293 := (congrFun pg_144 292).trans rfl
theorem q_144_292 {L : List Value} {x y : Int32} {S : List Value} {Z : gZ} {I : gI} {J : gJ} : g_at 144 292 L (.int y :: .int x :: S) Z I J = g_at 144 293 L (.int (x + y) :: S) Z I J := gq_bin e_144_292
set_option maxRecDepth 100000 in
theorem e_144_293 : g_Pg 144 293 = ga_iald 294 := (congrFun pg_144 293).trans rfl
theorem q_144_293 {L : List Value} {a : Nat} {i : Int32} {S : List Value} {Z : gZ} {I : gI} {J : gJ} (h : gTg8 (gKd Z a).1 a = true) (h0 : 0 ≤ i) (h1 : i.toNatClampNeg < (gKd Z a).2) : g_at 144 293 L (.int i :: .ref a :: S) Z I J = g_at 144 294 L (.int (I a i.toNatClampNeg) :: S) Z I J := gq_iald e_144_293 h h0 h1
set_option maxRecDepth 100000 in
theorem e_144_294 : g_Pg 144 294 = ga_callV 6 58 2 297 := (congrFun pg_144 294).trans rfl
theorem q_144_294 {L : List Value} {a0 : Int32} {a1 : Int32} {a2 : Nat} {Z : gZ} {I : gI} {J : gJ} (h : (gKd Z a2).1 = 6) : g_at 144 294 L [.int a0, .int a1, .ref a2] Z I J = (g_at 58 0 [.ref a2, .int a1, .int a0] [] Z I J).bind (fun r => g_at 144 297 L (r.1.toList ++ []) r.2.1 r.2.2.1 r.2.2.2) := gq_callV e_144_294 rfl rfl h rfl rfl rfl rfl rfl
set_option maxRecDepth 100000 in
theorem e_144_297 : g_Pg 144 297 = ga_aload 2 298 := (congrFun pg_144 297).trans rfl
theorem q_144_297 {l0 l1 l3 : Value} {x : Nat} {S : List Value} {Z : gZ} {I : gI} {J : gJ} : g_at 144 297 [l0, l1, .ref x, l3] S Z I J = g_at 144 298 [l0, l1, .ref x, l3] (.ref x :: S) Z I J := gq_aload e_144_297 rfl
set_option maxRecDepth 100000 in
theorem e_144_298 : g_Pg 144 298 = ga_aload 0 299 := (congrFun pg_144 298).trans rfl
theorem q_144_298 {l1 l2 l3 : Value} {x : Nat} {S : List Value} {Z : gZ} {I : gI} {J : gJ} : g_at 144 298 [.ref x, l1, l2, l3] S Z I J = g_at 144 299 [.ref x, l1, l2, l3] (.ref x :: S) Z I J := gq_aload e_144_298 rfl
set_option maxRecDepth 100000 in
theorem e_144_299 : g_Pg 144 299 = ga_iload 3 300 := (congrFun pg_144 299).trans rfl
theorem q_144_299 {l0 l1 l2 : Value} {x : Int32} {S : List Value} {Z : gZ} {I : gI} {J : gJ} : g_at 144 299 [l0, l1, l2, .int x] S Z I J = g_at 144 300 [l0, l1, l2, .int x] (.int x :: S) Z I J := gq_iload e_144_299 rfl
set_option maxRecDepth 100000 in
theorem e_144_300 : g_Pg 144 300 = ga_push (.int 1) 301 := (congrFun pg_144 300).trans rfl
theorem q_144_300 {L : List Value} {S : List Value} {Z : gZ} {I : gI} {J : gJ} : g_at 144 300 L S Z I J = g_at 144 301 L (.int 1 :: S) Z I J := gq_push e_144_300
set_option maxRecDepth 100000 in
theorem e_144_301 : g_Pg 144 301 = ga_bin (fun x y => x + y) 302 := (congrFun pg_144 301).trans rfl
theorem q_144_301 {L : List Value} {x y : Int32} {S : List Value} {Z : gZ} {I : gI} {J : gJ} : g_at 144 301 L (.int y :: .int x :: S) Z I J = g_at 144 302 L (.int (x + y) :: S) Z I J := gq_bin e_144_301
set_option maxRecDepth 100000 in
theorem e_144_302 : g_Pg 144 302 = ga_iald 303 := (congrFun pg_144 302).trans rfl
theorem q_144_302 {L : List Value} {a : Nat} {i : Int32} {S : List Value} {Z : gZ} {I : gI} {J : gJ} (h : gTg8 (gKd Z a).1 a = true) (h0 : 0 ≤ i) (h1 : i.toNatClampNeg < (gKd Z a).2) : g_at 144 302 L (.int i :: .ref a :: S) Z I J = g_at 144 303 L (.int (I a i.toNatClampNeg) :: S) Z I J := gq_iald e_144_302 h h0 h1
set_option maxRecDepth 100000 in
theorem e_144_303 : g_Pg 144 303 = ga_aload 0 304 := (congrFun pg_144 303).trans rfl
theorem q_144_303 {l1 l2 l3 : Value} {x : Nat} {S : List Value} {Z : gZ} {I : gI} {J : gJ} : g_at 144 303 [.ref x, l1, l2, l3] S Z I J = g_at 144 304 [.ref x, l1, l2, l3] (.ref x :: S) Z I J := gq_aload e_144_303 rfl
set_option maxRecDepth 100000 in
theorem e_144_304 : g_Pg 144 304 = ga_iload 3 305 := (congrFun pg_144 304).trans rfl
theorem q_144_304 {l0 l1 l2 : Value} {x : Int32} {S : List Value} {Z : gZ} {I : gI} {J : gJ} : g_at 144 304 [l0, l1, l2, .int x] S Z I J = g_at 144 305 [l0, l1, l2, .int x] (.int x :: S) Z I J := gq_iload e_144_304 rfl
set_option maxRecDepth 100000 in
theorem e_144_305 : g_Pg 144 305 = ga_push (.int 2) 306 := (congrFun pg_144 305).trans rfl
theorem q_144_305 {L : List Value} {S : List Value} {Z : gZ} {I : gI} {J : gJ} : g_at 144 305 L S Z I J = g_at 144 306 L (.int 2 :: S) Z I J := gq_push e_144_305
set_option maxRecDepth 100000 in
theorem e_144_306 : g_Pg 144 306 = ga_bin (fun x y => x + y) 307 := (congrFun pg_144 306).trans rfl
theorem q_144_306 {L : List Value} {x y : Int32} {S : List Value} {Z : gZ} {I : gI} {J : gJ} : g_at 144 306 L (.int y :: .int x :: S) Z I J = g_at 144 307 L (.int (x + y) :: S) Z I J := gq_bin e_144_306
set_option maxRecDepth 100000 in
theorem e_144_307 : g_Pg 144 307 = ga_iald 308 := (congrFun pg_144 307).trans rfl
theorem q_144_307 {L : List Value} {a : Nat} {i : Int32} {S : List Value} {Z : gZ} {I : gI} {J : gJ} (h : gTg8 (gKd Z a).1 a = true) (h0 : 0 ≤ i) (h1 : i.toNatClampNeg < (gKd Z a).2) : g_at 144 307 L (.int i :: .ref a :: S) Z I J = g_at 144 308 L (.int (I a i.toNatClampNeg) :: S) Z I J := gq_iald e_144_307 h h0 h1
set_option maxRecDepth 100000 in
theorem e_144_308 : g_Pg 144 308 = ga_callV 7 102 2 311 := (congrFun pg_144 308).trans rfl
theorem q_144_308 {L : List Value} {a0 : Int32} {a1 : Int32} {a2 : Nat} {r3 : Int32} {Z : gZ} {I : gI} {J : gJ} (h : (gKd Z a2).1 = 7) : g_at 144 308 L [.int a0, .int a1, .ref a2, .int r3] Z I J = (g_at 102 0 [.ref a2, .int a1, .int a0] [] Z I J).bind (fun r => g_at 144 311 L (r.1.toList ++ [.int r3]) r.2.1 r.2.2.1 r.2.2.2) := gq_callV e_144_308 rfl rfl h rfl rfl rfl rfl rfl
set_option maxRecDepth 100000 in
theorem e_144_311 : g_Pg 144 311 = ga_cmp (fun x y => decide (x = y)) 893 314 := (congrFun pg_144 311).trans rfl
theorem q_144_311 {L : List Value} {x y : Int32} {S : List Value} {Z : gZ} {I : gI} {J : gJ} : g_at 144 311 L (.int y :: .int x :: S) Z I J = if x = y then g_at 144 893 L S Z I J else g_at 144 314 L S Z I J := gq_cmp e_144_311 rfl
set_option maxRecDepth 100000 in
theorem e_144_314 : g_Pg 144 314 = ga_push (.int 0) 315 := (congrFun pg_144 314).trans rfl
theorem q_144_314 {L : List Value} {S : List Value} {Z : gZ} {I : gI} {J : gJ} : g_at 144 314 L S Z I J = g_at 144 315 L (.int 0 :: S) Z I J := gq_push e_144_314
set_option maxRecDepth 100000 in
theorem e_144_315 : g_Pg 144 315 = ga_zret := (congrFun pg_144 315).trans rfl
theorem q_144_315 {L : List Value} {x : Int32} {Z : gZ} {I : gI} {J : gJ} (h : gB01 x = true) : g_at 144 315 L [.int x] Z I J = some (some (.int x), Z, I, J) := gq_zret e_144_315 h
set_option maxRecDepth 100000 in
theorem e_144_316 : g_Pg 144 316 = ga_aload 1 317 := (congrFun pg_144 316).trans rfl
theorem q_144_316 {l0 l2 l3 : Value} {x : Nat} {S : List Value} {Z : gZ} {I : gI} {J : gJ} : g_at 144 316 [l0, .ref x, l2, l3] S Z I J = g_at 144 317 [l0, .ref x, l2, l3] (.ref x :: S) Z I J := gq_aload e_144_316 rfl
set_option maxRecDepth 100000 in
theorem e_144_317 : g_Pg 144 317 = ga_aload 0 318 := (congrFun pg_144 317).trans rfl
theorem q_144_317 {l1 l2 l3 : Value} {x : Nat} {S : List Value} {Z : gZ} {I : gI} {J : gJ} : g_at 144 317 [.ref x, l1, l2, l3] S Z I J = g_at 144 318 [.ref x, l1, l2, l3] (.ref x :: S) Z I J := gq_aload e_144_317 rfl
set_option maxRecDepth 100000 in
theorem e_144_318 : g_Pg 144 318 = ga_iload 3 319 := (congrFun pg_144 318).trans rfl
theorem q_144_318 {l0 l1 l2 : Value} {x : Int32} {S : List Value} {Z : gZ} {I : gI} {J : gJ} : g_at 144 318 [l0, l1, l2, .int x] S Z I J = g_at 144 319 [l0, l1, l2, .int x] (.int x :: S) Z I J := gq_iload e_144_318 rfl
set_option maxRecDepth 100000 in
theorem e_144_319 : g_Pg 144 319 = ga_push (.int 1) 320 := (congrFun pg_144 319).trans rfl
theorem q_144_319 {L : List Value} {S : List Value} {Z : gZ} {I : gI} {J : gJ} : g_at 144 319 L S Z I J = g_at 144 320 L (.int 1 :: S) Z I J := gq_push e_144_319
set_option maxRecDepth 100000 in
theorem e_144_320 : g_Pg 144 320 = ga_bin (fun x y => x + y) 321 := (congrFun pg_144 320).trans rfl
theorem q_144_320 {L : List Value} {x y : Int32} {S : List Value} {Z : gZ} {I : gI} {J : gJ} : g_at 144 320 L (.int y :: .int x :: S) Z I J = g_at 144 321 L (.int (x + y) :: S) Z I J := gq_bin e_144_320
set_option maxRecDepth 100000 in
theorem e_144_321 : g_Pg 144 321 = ga_iald 322 := (congrFun pg_144 321).trans rfl
theorem q_144_321 {L : List Value} {a : Nat} {i : Int32} {S : List Value} {Z : gZ} {I : gI} {J : gJ} (h : gTg8 (gKd Z a).1 a = true) (h0 : 0 ≤ i) (h1 : i.toNatClampNeg < (gKd Z a).2) : g_at 144 321 L (.int i :: .ref a :: S) Z I J = g_at 144 322 L (.int (I a i.toNatClampNeg) :: S) Z I J := gq_iald e_144_321 h h0 h1
set_option maxRecDepth 100000 in
theorem e_144_322 : g_Pg 144 322 = ga_aload 0 323 := (congrFun pg_144 322).trans rfl
theorem q_144_322 {l1 l2 l3 : Value} {x : Nat} {S : List Value} {Z : gZ} {I : gI} {J : gJ} : g_at 144 322 [.ref x, l1, l2, l3] S Z I J = g_at 144 323 [.ref x, l1, l2, l3] (.ref x :: S) Z I J := gq_aload e_144_322 rfl
set_option maxRecDepth 100000 in
theorem e_144_323 : g_Pg 144 323 = ga_iload 3 324 := (congrFun pg_144 323).trans rfl
theorem q_144_323 {l0 l1 l2 : Value} {x : Int32} {S : List Value} {Z : gZ} {I : gI} {J : gJ} : g_at 144 323 [l0, l1, l2, .int x] S Z I J = g_at 144 324 [l0, l1, l2, .int x] (.int x :: S) Z I J := gq_iload e_144_323 rfl
set_option maxRecDepth 100000 in
theorem e_144_324 : g_Pg 144 324 = ga_push (.int 2) 325 := (congrFun pg_144 324).trans rfl
theorem q_144_324 {L : List Value} {S : List Value} {Z : gZ} {I : gI} {J : gJ} : g_at 144 324 L S Z I J = g_at 144 325 L (.int 2 :: S) Z I J := gq_push e_144_324
set_option maxRecDepth 100000 in
theorem e_144_325 : g_Pg 144 325 = ga_bin (fun x y => x + y) 326 := (congrFun pg_144 325).trans rfl
theorem q_144_325 {L : List Value} {x y : Int32} {S : List Value} {Z : gZ} {I : gI} {J : gJ} : g_at 144 325 L (.int y :: .int x :: S) Z I J = g_at 144 326 L (.int (x + y) :: S) Z I J := gq_bin e_144_325
set_option maxRecDepth 100000 in
theorem e_144_326 : g_Pg 144 326 = ga_iald 327 := (congrFun pg_144 326).trans rfl
theorem q_144_326 {L : List Value} {a : Nat} {i : Int32} {S : List Value} {Z : gZ} {I : gI} {J : gJ} (h : gTg8 (gKd Z a).1 a = true) (h0 : 0 ≤ i) (h1 : i.toNatClampNeg < (gKd Z a).2) : g_at 144 326 L (.int i :: .ref a :: S) Z I J = g_at 144 327 L (.int (I a i.toNatClampNeg) :: S) Z I J := gq_iald e_144_326 h h0 h1
set_option maxRecDepth 100000 in
theorem e_144_327 : g_Pg 144 327 = ga_callV 6 59 2 330 := (congrFun pg_144 327).trans rfl
theorem q_144_327 {L : List Value} {a0 : Int32} {a1 : Int32} {a2 : Nat} {Z : gZ} {I : gI} {J : gJ} (h : (gKd Z a2).1 = 6) : g_at 144 327 L [.int a0, .int a1, .ref a2] Z I J = (g_at 59 0 [.ref a2, .int a1, .int a0] [] Z I J).bind (fun r => g_at 144 330 L (r.1.toList ++ []) r.2.1 r.2.2.1 r.2.2.2) := gq_callV e_144_327 rfl rfl h rfl rfl rfl rfl rfl
set_option maxRecDepth 100000 in
theorem e_144_330 : g_Pg 144 330 = ga_aload 2 331 := (congrFun pg_144 330).trans rfl
theorem q_144_330 {l0 l1 l3 : Value} {x : Nat} {S : List Value} {Z : gZ} {I : gI} {J : gJ} : g_at 144 330 [l0, l1, .ref x, l3] S Z I J = g_at 144 331 [l0, l1, .ref x, l3] (.ref x :: S) Z I J := gq_aload e_144_330 rfl
set_option maxRecDepth 100000 in
theorem e_144_331 : g_Pg 144 331 = ga_aload 0 332 := (congrFun pg_144 331).trans rfl
theorem q_144_331 {l1 l2 l3 : Value} {x : Nat} {S : List Value} {Z : gZ} {I : gI} {J : gJ} : g_at 144 331 [.ref x, l1, l2, l3] S Z I J = g_at 144 332 [.ref x, l1, l2, l3] (.ref x :: S) Z I J := gq_aload e_144_331 rfl
set_option maxRecDepth 100000 in
theorem e_144_332 : g_Pg 144 332 = ga_iload 3 333 := (congrFun pg_144 332).trans rfl
theorem q_144_332 {l0 l1 l2 : Value} {x : Int32} {S : List Value} {Z : gZ} {I : gI} {J : gJ} : g_at 144 332 [l0, l1, l2, .int x] S Z I J = g_at 144 333 [l0, l1, l2, .int x] (.int x :: S) Z I J := gq_iload e_144_332 rfl
set_option maxRecDepth 100000 in
theorem e_144_333 : g_Pg 144 333 = ga_push (.int 1) 334 := (congrFun pg_144 333).trans rfl
theorem q_144_333 {L : List Value} {S : List Value} {Z : gZ} {I : gI} {J : gJ} : g_at 144 333 L S Z I J = g_at 144 334 L (.int 1 :: S) Z I J := gq_push e_144_333
set_option maxRecDepth 100000 in
theorem e_144_334 : g_Pg 144 334 = ga_bin (fun x y => x + y) 335 := (congrFun pg_144 334).trans rfl
theorem q_144_334 {L : List Value} {x y : Int32} {S : List Value} {Z : gZ} {I : gI} {J : gJ} : g_at 144 334 L (.int y :: .int x :: S) Z I J = g_at 144 335 L (.int (x + y) :: S) Z I J := gq_bin e_144_334
set_option maxRecDepth 100000 in
theorem e_144_335 : g_Pg 144 335 = ga_iald 336 := (congrFun pg_144 335).trans rfl
theorem q_144_335 {L : List Value} {a : Nat} {i : Int32} {S : List Value} {Z : gZ} {I : gI} {J : gJ} (h : gTg8 (gKd Z a).1 a = true) (h0 : 0 ≤ i) (h1 : i.toNatClampNeg < (gKd Z a).2) : g_at 144 335 L (.int i :: .ref a :: S) Z I J = g_at 144 336 L (.int (I a i.toNatClampNeg) :: S) Z I J := gq_iald e_144_335 h h0 h1
set_option maxRecDepth 100000 in
theorem e_144_336 : g_Pg 144 336 = ga_aload 0 337 := (congrFun pg_144 336).trans rfl
theorem q_144_336 {l1 l2 l3 : Value} {x : Nat} {S : List Value} {Z : gZ} {I : gI} {J : gJ} : g_at 144 336 [.ref x, l1, l2, l3] S Z I J = g_at 144 337 [.ref x, l1, l2, l3] (.ref x :: S) Z I J := gq_aload e_144_336 rfl
set_option maxRecDepth 100000 in
theorem e_144_337 : g_Pg 144 337 = ga_iload 3 338 := (congrFun pg_144 337).trans rfl
theorem q_144_337 {l0 l1 l2 : Value} {x : Int32} {S : List Value} {Z : gZ} {I : gI} {J : gJ} : g_at 144 337 [l0, l1, l2, .int x] S Z I J = g_at 144 338 [l0, l1, l2, .int x] (.int x :: S) Z I J := gq_iload e_144_337 rfl
set_option maxRecDepth 100000 in
theorem e_144_338 : g_Pg 144 338 = ga_push (.int 2) 339 := (congrFun pg_144 338).trans rfl
theorem q_144_338 {L : List Value} {S : List Value} {Z : gZ} {I : gI} {J : gJ} : g_at 144 338 L S Z I J = g_at 144 339 L (.int 2 :: S) Z I J := gq_push e_144_338
set_option maxRecDepth 100000 in
theorem e_144_339 : g_Pg 144 339 = ga_bin (fun x y => x + y) 340 := (congrFun pg_144 339).trans rfl
theorem q_144_339 {L : List Value} {x y : Int32} {S : List Value} {Z : gZ} {I : gI} {J : gJ} : g_at 144 339 L (.int y :: .int x :: S) Z I J = g_at 144 340 L (.int (x + y) :: S) Z I J := gq_bin e_144_339
set_option maxRecDepth 100000 in
theorem e_144_340 : g_Pg 144 340 = ga_iald 341 := (congrFun pg_144 340).trans rfl
theorem q_144_340 {L : List Value} {a : Nat} {i : Int32} {S : List Value} {Z : gZ} {I : gI} {J : gJ} (h : gTg8 (gKd Z a).1 a = true) (h0 : 0 ≤ i) (h1 : i.toNatClampNeg < (gKd Z a).2) : g_at 144 340 L (.int i :: .ref a :: S) Z I J = g_at 144 341 L (.int (I a i.toNatClampNeg) :: S) Z I J := gq_iald e_144_340 h h0 h1
set_option maxRecDepth 100000 in
theorem e_144_341 : g_Pg 144 341 = ga_callV 7 103 2 344 := (congrFun pg_144 341).trans rfl
theorem q_144_341 {L : List Value} {a0 : Int32} {a1 : Int32} {a2 : Nat} {r3 : Int32} {Z : gZ} {I : gI} {J : gJ} (h : (gKd Z a2).1 = 7) : g_at 144 341 L [.int a0, .int a1, .ref a2, .int r3] Z I J = (g_at 103 0 [.ref a2, .int a1, .int a0, .null, .null] [] Z I J).bind (fun r => g_at 144 344 L (r.1.toList ++ [.int r3]) r.2.1 r.2.2.1 r.2.2.2) := gq_callV e_144_341 rfl rfl h rfl rfl rfl rfl rfl
set_option maxRecDepth 100000 in
theorem e_144_344 : g_Pg 144 344 = ga_cmp (fun x y => decide (x = y)) 893 347 := (congrFun pg_144 344).trans rfl
theorem q_144_344 {L : List Value} {x y : Int32} {S : List Value} {Z : gZ} {I : gI} {J : gJ} : g_at 144 344 L (.int y :: .int x :: S) Z I J = if x = y then g_at 144 893 L S Z I J else g_at 144 347 L S Z I J := gq_cmp e_144_344 rfl
set_option maxRecDepth 100000 in
theorem e_144_347 : g_Pg 144 347 = ga_push (.int 0) 348 := (congrFun pg_144 347).trans rfl
theorem q_144_347 {L : List Value} {S : List Value} {Z : gZ} {I : gI} {J : gJ} : g_at 144 347 L S Z I J = g_at 144 348 L (.int 0 :: S) Z I J := gq_push e_144_347
set_option maxRecDepth 100000 in
theorem e_144_348 : g_Pg 144 348 = ga_zret := (congrFun pg_144 348).trans rfl
theorem q_144_348 {L : List Value} {x : Int32} {Z : gZ} {I : gI} {J : gJ} (h : gB01 x = true) : g_at 144 348 L [.int x] Z I J = some (some (.int x), Z, I, J) := gq_zret e_144_348 h
set_option maxRecDepth 100000 in
theorem e_144_349 : g_Pg 144 349 = ga_aload 1 350 := (congrFun pg_144 349).trans rfl
theorem q_144_349 {l0 l2 l3 : Value} {x : Nat} {S : List Value} {Z : gZ} {I : gI} {J : gJ} : g_at 144 349 [l0, .ref x, l2, l3] S Z I J = g_at 144 350 [l0, .ref x, l2, l3] (.ref x :: S) Z I J := gq_aload e_144_349 rfl
set_option maxRecDepth 100000 in
theorem e_144_350 : g_Pg 144 350 = ga_aload 0 351 := (congrFun pg_144 350).trans rfl
theorem q_144_350 {l1 l2 l3 : Value} {x : Nat} {S : List Value} {Z : gZ} {I : gI} {J : gJ} : g_at 144 350 [.ref x, l1, l2, l3] S Z I J = g_at 144 351 [.ref x, l1, l2, l3] (.ref x :: S) Z I J := gq_aload e_144_350 rfl
set_option maxRecDepth 100000 in
theorem e_144_351 : g_Pg 144 351 = ga_iload 3 352 := (congrFun pg_144 351).trans rfl
theorem q_144_351 {l0 l1 l2 : Value} {x : Int32} {S : List Value} {Z : gZ} {I : gI} {J : gJ} : g_at 144 351 [l0, l1, l2, .int x] S Z I J = g_at 144 352 [l0, l1, l2, .int x] (.int x :: S) Z I J := gq_iload e_144_351 rfl
set_option maxRecDepth 100000 in
theorem e_144_352 : g_Pg 144 352 = ga_push (.int 1) 353 := (congrFun pg_144 352).trans rfl
theorem q_144_352 {L : List Value} {S : List Value} {Z : gZ} {I : gI} {J : gJ} : g_at 144 352 L S Z I J = g_at 144 353 L (.int 1 :: S) Z I J := gq_push e_144_352
set_option maxRecDepth 100000 in
theorem e_144_353 : g_Pg 144 353 = ga_bin (fun x y => x + y) 354 := (congrFun pg_144 353).trans rfl
theorem q_144_353 {L : List Value} {x y : Int32} {S : List Value} {Z : gZ} {I : gI} {J : gJ} : g_at 144 353 L (.int y :: .int x :: S) Z I J = g_at 144 354 L (.int (x + y) :: S) Z I J := gq_bin e_144_353
set_option maxRecDepth 100000 in
theorem e_144_354 : g_Pg 144 354 = ga_iald 355 := (congrFun pg_144 354).trans rfl
theorem q_144_354 {L : List Value} {a : Nat} {i : Int32} {S : List Value} {Z : gZ} {I : gI} {J : gJ} (h : gTg8 (gKd Z a).1 a = true) (h0 : 0 ≤ i) (h1 : i.toNatClampNeg < (gKd Z a).2) : g_at 144 354 L (.int i :: .ref a :: S) Z I J = g_at 144 355 L (.int (I a i.toNatClampNeg) :: S) Z I J := gq_iald e_144_354 h h0 h1
set_option maxRecDepth 100000 in
theorem e_144_355 : g_Pg 144 355 = ga_callV 6 61 1 358 := (congrFun pg_144 355).trans rfl
theorem q_144_355 {L : List Value} {a0 : Int32} {a1 : Nat} {Z : gZ} {I : gI} {J : gJ} (h : (gKd Z a1).1 = 6) : g_at 144 355 L [.int a0, .ref a1] Z I J = (g_at 61 0 [.ref a1, .int a0] [] Z I J).bind (fun r => g_at 144 358 L (r.1.toList ++ []) r.2.1 r.2.2.1 r.2.2.2) := gq_callV e_144_355 rfl rfl h rfl rfl rfl rfl rfl
set_option maxRecDepth 100000 in
theorem e_144_358 : g_Pg 144 358 = ga_aload 2 359 := (congrFun pg_144 358).trans rfl
theorem q_144_358 {l0 l1 l3 : Value} {x : Nat} {S : List Value} {Z : gZ} {I : gI} {J : gJ} : g_at 144 358 [l0, l1, .ref x, l3] S Z I J = g_at 144 359 [l0, l1, .ref x, l3] (.ref x :: S) Z I J := gq_aload e_144_358 rfl
set_option maxRecDepth 100000 in
theorem e_144_359 : g_Pg 144 359 = ga_aload 0 360 := (congrFun pg_144 359).trans rfl
theorem q_144_359 {l1 l2 l3 : Value} {x : Nat} {S : List Value} {Z : gZ} {I : gI} {J : gJ} : g_at 144 359 [.ref x, l1, l2, l3] S Z I J = g_at 144 360 [.ref x, l1, l2, l3] (.ref x :: S) Z I J := gq_aload e_144_359 rfl
set_option maxRecDepth 100000 in
theorem e_144_360 : g_Pg 144 360 = ga_iload 3 361 := (congrFun pg_144 360).trans rfl
theorem q_144_360 {l0 l1 l2 : Value} {x : Int32} {S : List Value} {Z : gZ} {I : gI} {J : gJ} : g_at 144 360 [l0, l1, l2, .int x] S Z I J = g_at 144 361 [l0, l1, l2, .int x] (.int x :: S) Z I J := gq_iload e_144_360 rfl
set_option maxRecDepth 100000 in
theorem e_144_361 : g_Pg 144 361 = ga_push (.int 1) 362 := (congrFun pg_144 361).trans rfl
theorem q_144_361 {L : List Value} {S : List Value} {Z : gZ} {I : gI} {J : gJ} : g_at 144 361 L S Z I J = g_at 144 362 L (.int 1 :: S) Z I J := gq_push e_144_361
set_option maxRecDepth 100000 in
theorem e_144_362 : g_Pg 144 362 = ga_bin (fun x y => x + y) 363 := (congrFun pg_144 362).trans rfl
theorem q_144_362 {L : List Value} {x y : Int32} {S : List Value} {Z : gZ} {I : gI} {J : gJ} : g_at 144 362 L (.int y :: .int x :: S) Z I J = g_at 144 363 L (.int (x + y) :: S) Z I J := gq_bin e_144_362
set_option maxRecDepth 100000 in
theorem e_144_363 : g_Pg 144 363 = ga_iald 364 := (congrFun pg_144 363).trans rfl
theorem q_144_363 {L : List Value} {a : Nat} {i : Int32} {S : List Value} {Z : gZ} {I : gI} {J : gJ} (h : gTg8 (gKd Z a).1 a = true) (h0 : 0 ≤ i) (h1 : i.toNatClampNeg < (gKd Z a).2) : g_at 144 363 L (.int i :: .ref a :: S) Z I J = g_at 144 364 L (.int (I a i.toNatClampNeg) :: S) Z I J := gq_iald e_144_363 h h0 h1
set_option maxRecDepth 100000 in
theorem e_144_364 : g_Pg 144 364 = ga_callV 7 105 1 367 := (congrFun pg_144 364).trans rfl
theorem q_144_364 {L : List Value} {a0 : Int32} {a1 : Nat} {r2 : Int32} {Z : gZ} {I : gI} {J : gJ} (h : (gKd Z a1).1 = 7) : g_at 144 364 L [.int a0, .ref a1, .int r2] Z I J = (g_at 105 0 [.ref a1, .int a0] [] Z I J).bind (fun r => g_at 144 367 L (r.1.toList ++ [.int r2]) r.2.1 r.2.2.1 r.2.2.2) := gq_callV e_144_364 rfl rfl h rfl rfl rfl rfl rfl
set_option maxRecDepth 100000 in
theorem e_144_367 : g_Pg 144 367 = ga_cmp (fun x y => decide (x = y)) 893 370 := (congrFun pg_144 367).trans rfl
theorem q_144_367 {L : List Value} {x y : Int32} {S : List Value} {Z : gZ} {I : gI} {J : gJ} : g_at 144 367 L (.int y :: .int x :: S) Z I J = if x = y then g_at 144 893 L S Z I J else g_at 144 370 L S Z I J := gq_cmp e_144_367 rfl
set_option maxRecDepth 100000 in
theorem e_144_370 : g_Pg 144 370 = ga_push (.int 0) 371 := (congrFun pg_144 370).trans rfl
theorem q_144_370 {L : List Value} {S : List Value} {Z : gZ} {I : gI} {J : gJ} : g_at 144 370 L S Z I J = g_at 144 371 L (.int 0 :: S) Z I J := gq_push e_144_370
set_option maxRecDepth 100000 in
theorem e_144_371 : g_Pg 144 371 = ga_zret := (congrFun pg_144 371).trans rfl
theorem q_144_371 {L : List Value} {x : Int32} {Z : gZ} {I : gI} {J : gJ} (h : gB01 x = true) : g_at 144 371 L [.int x] Z I J = some (some (.int x), Z, I, J) := gq_zret e_144_371 h
set_option maxRecDepth 100000 in
theorem e_144_372 : g_Pg 144 372 = ga_aload 1 373 := (congrFun pg_144 372).trans rfl
theorem q_144_372 {l0 l2 l3 : Value} {x : Nat} {S : List Value} {Z : gZ} {I : gI} {J : gJ} : g_at 144 372 [l0, .ref x, l2, l3] S Z I J = g_at 144 373 [l0, .ref x, l2, l3] (.ref x :: S) Z I J := gq_aload e_144_372 rfl
set_option maxRecDepth 100000 in
theorem e_144_373 : g_Pg 144 373 = ga_aload 0 374 := (congrFun pg_144 373).trans rfl
theorem q_144_373 {l1 l2 l3 : Value} {x : Nat} {S : List Value} {Z : gZ} {I : gI} {J : gJ} : g_at 144 373 [.ref x, l1, l2, l3] S Z I J = g_at 144 374 [.ref x, l1, l2, l3] (.ref x :: S) Z I J := gq_aload e_144_373 rfl
set_option maxRecDepth 100000 in
theorem e_144_374 : g_Pg 144 374 = ga_iload 3 375 := (congrFun pg_144 374).trans rfl
theorem q_144_374 {l0 l1 l2 : Value} {x : Int32} {S : List Value} {Z : gZ} {I : gI} {J : gJ} : g_at 144 374 [l0, l1, l2, .int x] S Z I J = g_at 144 375 [l0, l1, l2, .int x] (.int x :: S) Z I J := gq_iload e_144_374 rfl
set_option maxRecDepth 100000 in
theorem e_144_375 : g_Pg 144 375 = ga_push (.int 1) 376 := (congrFun pg_144 375).trans rfl
theorem q_144_375 {L : List Value} {S : List Value} {Z : gZ} {I : gI} {J : gJ} : g_at 144 375 L S Z I J = g_at 144 376 L (.int 1 :: S) Z I J := gq_push e_144_375
set_option maxRecDepth 100000 in
theorem e_144_376 : g_Pg 144 376 = ga_bin (fun x y => x + y) 377 := (congrFun pg_144 376).trans rfl
theorem q_144_376 {L : List Value} {x y : Int32} {S : List Value} {Z : gZ} {I : gI} {J : gJ} : g_at 144 376 L (.int y :: .int x :: S) Z I J = g_at 144 377 L (.int (x + y) :: S) Z I J := gq_bin e_144_376
set_option maxRecDepth 100000 in
theorem e_144_377 : g_Pg 144 377 = ga_iald 378 := (congrFun pg_144 377).trans rfl
theorem q_144_377 {L : List Value} {a : Nat} {i : Int32} {S : List Value} {Z : gZ} {I : gI} {J : gJ} (h : gTg8 (gKd Z a).1 a = true) (h0 : 0 ≤ i) (h1 : i.toNatClampNeg < (gKd Z a).2) : g_at 144 377 L (.int i :: .ref a :: S) Z I J = g_at 144 378 L (.int (I a i.toNatClampNeg) :: S) Z I J := gq_iald e_144_377 h h0 h1
set_option maxRecDepth 100000 in
theorem e_144_378 : g_Pg 144 378 = ga_callV 6 62 1 381 := (congrFun pg_144 378).trans rfl
theorem q_144_378 {L : List Value} {a0 : Int32} {a1 : Nat} {Z : gZ} {I : gI} {J : gJ} (h : (gKd Z a1).1 = 6) : g_at 144 378 L [.int a0, .ref a1] Z I J = (g_at 62 0 [.ref a1, .int a0, .null, .null] [] Z I J).bind (fun r => g_at 144 381 L (r.1.toList ++ []) r.2.1 r.2.2.1 r.2.2.2) := gq_callV e_144_378 rfl rfl h rfl rfl rfl rfl rfl
set_option maxRecDepth 100000 in
theorem e_144_381 : g_Pg 144 381 = ga_aload 2 382 := (congrFun pg_144 381).trans rfl
theorem q_144_381 {l0 l1 l3 : Value} {x : Nat} {S : List Value} {Z : gZ} {I : gI} {J : gJ} : g_at 144 381 [l0, l1, .ref x, l3] S Z I J = g_at 144 382 [l0, l1, .ref x, l3] (.ref x :: S) Z I J := gq_aload e_144_381 rfl
set_option maxRecDepth 100000 in
theorem e_144_382 : g_Pg 144 382 = ga_aload 0 383 := (congrFun pg_144 382).trans rfl
theorem q_144_382 {l1 l2 l3 : Value} {x : Nat} {S : List Value} {Z : gZ} {I : gI} {J : gJ} : g_at 144 382 [.ref x, l1, l2, l3] S Z I J = g_at 144 383 [.ref x, l1, l2, l3] (.ref x :: S) Z I J := gq_aload e_144_382 rfl
set_option maxRecDepth 100000 in
theorem e_144_383 : g_Pg 144 383 = ga_iload 3 384 := (congrFun pg_144 383).trans rfl
theorem q_144_383 {l0 l1 l2 : Value} {x : Int32} {S : List Value} {Z : gZ} {I : gI} {J : gJ} : g_at 144 383 [l0, l1, l2, .int x] S Z I J = g_at 144 384 [l0, l1, l2, .int x] (.int x :: S) Z I J := gq_iload e_144_383 rfl
set_option maxRecDepth 100000 in
theorem e_144_384 : g_Pg 144 384 = ga_push (.int 1) 385 := (congrFun pg_144 384).trans rfl
theorem q_144_384 {L : List Value} {S : List Value} {Z : gZ} {I : gI} {J : gJ} : g_at 144 384 L S Z I J = g_at 144 385 L (.int 1 :: S) Z I J := gq_push e_144_384
set_option maxRecDepth 100000 in
theorem e_144_385 : g_Pg 144 385 = ga_bin (fun x y => x + y) 386 := (congrFun pg_144 385).trans rfl
theorem q_144_385 {L : List Value} {x y : Int32} {S : List Value} {Z : gZ} {I : gI} {J : gJ} : g_at 144 385 L (.int y :: .int x :: S) Z I J = g_at 144 386 L (.int (x + y) :: S) Z I J := gq_bin e_144_385
set_option maxRecDepth 100000 in
theorem e_144_386 : g_Pg 144 386 = ga_iald 387 := (congrFun pg_144 386).trans rfl
theorem q_144_386 {L : List Value} {a : Nat} {i : Int32} {S : List Value} {Z : gZ} {I : gI} {J : gJ} (h : gTg8 (gKd Z a).1 a = true) (h0 : 0 ≤ i) (h1 : i.toNatClampNeg < (gKd Z a).2) : g_at 144 386 L (.int i :: .ref a :: S) Z I J = g_at 144 387 L (.int (I a i.toNatClampNeg) :: S) Z I J := gq_iald e_144_386 h h0 h1
set_option maxRecDepth 100000 in
theorem e_144_387 : g_Pg 144 387 = ga_callV 7 107 1 390 := (congrFun pg_144 387).trans rfl
theorem q_144_387 {L : List Value} {a0 : Int32} {a1 : Nat} {r2 : Int32} {Z : gZ} {I : gI} {J : gJ} (h : (gKd Z a1).1 = 7) : g_at 144 387 L [.int a0, .ref a1, .int r2] Z I J = (g_at 107 0 [.ref a1, .int a0, .null, .null] [] Z I J).bind (fun r => g_at 144 390 L (r.1.toList ++ [.int r2]) r.2.1 r.2.2.1 r.2.2.2) := gq_callV e_144_387 rfl rfl h rfl rfl rfl rfl rfl
set_option maxRecDepth 100000 in
theorem e_144_390 : g_Pg 144 390 = ga_cmp (fun x y => decide (x = y)) 893 393 := (congrFun pg_144 390).trans rfl
theorem q_144_390 {L : List Value} {x y : Int32} {S : List Value} {Z : gZ} {I : gI} {J : gJ} : g_at 144 390 L (.int y :: .int x :: S) Z I J = if x = y then g_at 144 893 L S Z I J else g_at 144 393 L S Z I J := gq_cmp e_144_390 rfl
set_option maxRecDepth 100000 in
theorem e_144_393 : g_Pg 144 393 = ga_push (.int 0) 394 := (congrFun pg_144 393).trans rfl
theorem q_144_393 {L : List Value} {S : List Value} {Z : gZ} {I : gI} {J : gJ} : g_at 144 393 L S Z I J = g_at 144 394 L (.int 0 :: S) Z I J := gq_push e_144_393
set_option maxRecDepth 100000 in
theorem e_144_394 : g_Pg 144 394 = ga_zret := (congrFun pg_144 394).trans rfl
theorem q_144_394 {L : List Value} {x : Int32} {Z : gZ} {I : gI} {J : gJ} (h : gB01 x = true) : g_at 144 394 L [.int x] Z I J = some (some (.int x), Z, I, J) := gq_zret e_144_394 h
set_option maxRecDepth 100000 in
theorem e_144_395 : g_Pg 144 395 = ga_aload 1 396 := (congrFun pg_144 395).trans rfl
theorem q_144_395 {l0 l2 l3 : Value} {x : Nat} {S : List Value} {Z : gZ} {I : gI} {J : gJ} : g_at 144 395 [l0, .ref x, l2, l3] S Z I J = g_at 144 396 [l0, .ref x, l2, l3] (.ref x :: S) Z I J := gq_aload e_144_395 rfl
set_option maxRecDepth 100000 in
theorem e_144_396 : g_Pg 144 396 = ga_aload 0 397 := (congrFun pg_144 396).trans rfl
theorem q_144_396 {l1 l2 l3 : Value} {x : Nat} {S : List Value} {Z : gZ} {I : gI} {J : gJ} : g_at 144 396 [.ref x, l1, l2, l3] S Z I J = g_at 144 397 [.ref x, l1, l2, l3] (.ref x :: S) Z I J := gq_aload e_144_396 rfl
set_option maxRecDepth 100000 in
theorem e_144_397 : g_Pg 144 397 = ga_iload 3 398 := (congrFun pg_144 397).trans rfl
theorem q_144_397 {l0 l1 l2 : Value} {x : Int32} {S : List Value} {Z : gZ} {I : gI} {J : gJ} : g_at 144 397 [l0, l1, l2, .int x] S Z I J = g_at 144 398 [l0, l1, l2, .int x] (.int x :: S) Z I J := gq_iload e_144_397 rfl
set_option maxRecDepth 100000 in
theorem e_144_398 : g_Pg 144 398 = ga_push (.int 1) 399 := (congrFun pg_144 398).trans rfl
theorem q_144_398 {L : List Value} {S : List Value} {Z : gZ} {I : gI} {J : gJ} : g_at 144 398 L S Z I J = g_at 144 399 L (.int 1 :: S) Z I J := gq_push e_144_398
set_option maxRecDepth 100000 in
theorem e_144_399 : g_Pg 144 399 = ga_bin (fun x y => x + y) 400 := (congrFun pg_144 399).trans rfl
theorem q_144_399 {L : List Value} {x y : Int32} {S : List Value} {Z : gZ} {I : gI} {J : gJ} : g_at 144 399 L (.int y :: .int x :: S) Z I J = g_at 144 400 L (.int (x + y) :: S) Z I J := gq_bin e_144_399
set_option maxRecDepth 100000 in
theorem e_144_400 : g_Pg 144 400 = ga_iald 401 := (congrFun pg_144 400).trans rfl
theorem q_144_400 {L : List Value} {a : Nat} {i : Int32} {S : List Value} {Z : gZ} {I : gI} {J : gJ} (h : gTg8 (gKd Z a).1 a = true) (h0 : 0 ≤ i) (h1 : i.toNatClampNeg < (gKd Z a).2) : g_at 144 400 L (.int i :: .ref a :: S) Z I J = g_at 144 401 L (.int (I a i.toNatClampNeg) :: S) Z I J := gq_iald e_144_400 h h0 h1
set_option maxRecDepth 100000 in
theorem e_144_401 : g_Pg 144 401 = ga_callV 6 63 1 404 := (congrFun pg_144 401).trans rfl
theorem q_144_401 {L : List Value} {a0 : Int32} {a1 : Nat} {Z : gZ} {I : gI} {J : gJ} (h : (gKd Z a1).1 = 6) : g_at 144 401 L [.int a0, .ref a1] Z I J = (g_at 63 0 [.ref a1, .int a0, .null] [] Z I J).bind (fun r => g_at 144 404 L (r.1.toList ++ []) r.2.1 r.2.2.1 r.2.2.2) := gq_callV e_144_401 rfl rfl h rfl rfl rfl rfl rfl
set_option maxRecDepth 100000 in
theorem e_144_404 : g_Pg 144 404 = ga_aload 2 405 := (congrFun pg_144 404).trans rfl
theorem q_144_404 {l0 l1 l3 : Value} {x : Nat} {S : List Value} {Z : gZ} {I : gI} {J : gJ} : g_at 144 404 [l0, l1, .ref x, l3] S Z I J = g_at 144 405 [l0, l1, .ref x, l3] (.ref x :: S) Z I J := gq_aload e_144_404 rfl
set_option maxRecDepth 100000 in
theorem e_144_405 : g_Pg 144 405 = ga_aload 0 406 := (congrFun pg_144 405).trans rfl
theorem q_144_405 {l1 l2 l3 : Value} {x : Nat} {S : List Value} {Z : gZ} {I : gI} {J : gJ} : g_at 144 405 [.ref x, l1, l2, l3] S Z I J = g_at 144 406 [.ref x, l1, l2, l3] (.ref x :: S) Z I J := gq_aload e_144_405 rfl
set_option maxRecDepth 100000 in
theorem e_144_406 : g_Pg 144 406 = ga_iload 3 407 := (congrFun pg_144 406).trans rfl
theorem q_144_406 {l0 l1 l2 : Value} {x : Int32} {S : List Value} {Z : gZ} {I : gI} {J : gJ} : g_at 144 406 [l0, l1, l2, .int x] S Z I J = g_at 144 407 [l0, l1, l2, .int x] (.int x :: S) Z I J := gq_iload e_144_406 rfl
set_option maxRecDepth 100000 in
theorem e_144_407 : g_Pg 144 407 = ga_push (.int 1) 408 := (congrFun pg_144 407).trans rfl
theorem q_144_407 {L : List Value} {S : List Value} {Z : gZ} {I : gI} {J : gJ} : g_at 144 407 L S Z I J = g_at 144 408 L (.int 1 :: S) Z I J := gq_push e_144_407
set_option maxRecDepth 100000 in
theorem e_144_408 : g_Pg 144 408 = ga_bin (fun x y => x + y) 409 := (congrFun pg_144 408).trans rfl
theorem q_144_408 {L : List Value} {x y : Int32} {S : List Value} {Z : gZ} {I : gI} {J : gJ} : g_at 144 408 L (.int y :: .int x :: S) Z I J = g_at 144 409 L (.int (x + y) :: S) Z I J := gq_bin e_144_408
set_option maxRecDepth 100000 in
theorem e_144_409 : g_Pg 144 409 = ga_iald 410 := (congrFun pg_144 409).trans rfl
theorem q_144_409 {L : List Value} {a : Nat} {i : Int32} {S : List Value} {Z : gZ} {I : gI} {J : gJ} (h : gTg8 (gKd Z a).1 a = true) (h0 : 0 ≤ i) (h1 : i.toNatClampNeg < (gKd Z a).2) : g_at 144 409 L (.int i :: .ref a :: S) Z I J = g_at 144 410 L (.int (I a i.toNatClampNeg) :: S) Z I J := gq_iald e_144_409 h h0 h1
set_option maxRecDepth 100000 in
theorem e_144_410 : g_Pg 144 410 = ga_callV 7 108 1 413 := (congrFun pg_144 410).trans rfl
theorem q_144_410 {L : List Value} {a0 : Int32} {a1 : Nat} {r2 : Int32} {Z : gZ} {I : gI} {J : gJ} (h : (gKd Z a1).1 = 7) : g_at 144 410 L [.int a0, .ref a1, .int r2] Z I J = (g_at 108 0 [.ref a1, .int a0, .null] [] Z I J).bind (fun r => g_at 144 413 L (r.1.toList ++ [.int r2]) r.2.1 r.2.2.1 r.2.2.2) := gq_callV e_144_410 rfl rfl h rfl rfl rfl rfl rfl
set_option maxRecDepth 100000 in
theorem e_144_413 : g_Pg 144 413 = ga_cmp (fun x y => decide (x = y)) 893 416 := (congrFun pg_144 413).trans rfl
theorem q_144_413 {L : List Value} {x y : Int32} {S : List Value} {Z : gZ} {I : gI} {J : gJ} : g_at 144 413 L (.int y :: .int x :: S) Z I J = if x = y then g_at 144 893 L S Z I J else g_at 144 416 L S Z I J := gq_cmp e_144_413 rfl
set_option maxRecDepth 100000 in
theorem e_144_416 : g_Pg 144 416 = ga_push (.int 0) 417 := (congrFun pg_144 416).trans rfl
theorem q_144_416 {L : List Value} {S : List Value} {Z : gZ} {I : gI} {J : gJ} : g_at 144 416 L S Z I J = g_at 144 417 L (.int 0 :: S) Z I J := gq_push e_144_416
set_option maxRecDepth 100000 in
theorem e_144_417 : g_Pg 144 417 = ga_zret := (congrFun pg_144 417).trans rfl
theorem q_144_417 {L : List Value} {x : Int32} {Z : gZ} {I : gI} {J : gJ} (h : gB01 x = true) : g_at 144 417 L [.int x] Z I J = some (some (.int x), Z, I, J) := gq_zret e_144_417 h
set_option maxRecDepth 100000 in
theorem e_144_418 : g_Pg 144 418 = ga_aload 1 419 := (congrFun pg_144 418).trans rfl
theorem q_144_418 {l0 l2 l3 : Value} {x : Nat} {S : List Value} {Z : gZ} {I : gI} {J : gJ} : g_at 144 418 [l0, .ref x, l2, l3] S Z I J = g_at 144 419 [l0, .ref x, l2, l3] (.ref x :: S) Z I J := gq_aload e_144_418 rfl
set_option maxRecDepth 100000 in
theorem e_144_419 : g_Pg 144 419 = ga_aload 0 420 := (congrFun pg_144 419).trans rfl
theorem q_144_419 {l1 l2 l3 : Value} {x : Nat} {S : List Value} {Z : gZ} {I : gI} {J : gJ} : g_at 144 419 [.ref x, l1, l2, l3] S Z I J = g_at 144 420 [.ref x, l1, l2, l3] (.ref x :: S) Z I J := gq_aload e_144_419 rfl
set_option maxRecDepth 100000 in
theorem e_144_420 : g_Pg 144 420 = ga_iload 3 421 := (congrFun pg_144 420).trans rfl
theorem q_144_420 {l0 l1 l2 : Value} {x : Int32} {S : List Value} {Z : gZ} {I : gI} {J : gJ} : g_at 144 420 [l0, l1, l2, .int x] S Z I J = g_at 144 421 [l0, l1, l2, .int x] (.int x :: S) Z I J := gq_iload e_144_420 rfl
set_option maxRecDepth 100000 in
theorem e_144_421 : g_Pg 144 421 = ga_push (.int 1) 422 := (congrFun pg_144 421).trans rfl
theorem q_144_421 {L : List Value} {S : List Value} {Z : gZ} {I : gI} {J : gJ} : g_at 144 421 L S Z I J = g_at 144 422 L (.int 1 :: S) Z I J := gq_push e_144_421
set_option maxRecDepth 100000 in
theorem e_144_422 : g_Pg 144 422 = ga_bin (fun x y => x + y) 423 := (congrFun pg_144 422).trans rfl
theorem q_144_422 {L : List Value} {x y : Int32} {S : List Value} {Z : gZ} {I : gI} {J : gJ} : g_at 144 422 L (.int y :: .int x :: S) Z I J = g_at 144 423 L (.int (x + y) :: S) Z I J := gq_bin e_144_422
set_option maxRecDepth 100000 in
theorem e_144_423 : g_Pg 144 423 = ga_iald 424 := (congrFun pg_144 423).trans rfl
theorem q_144_423 {L : List Value} {a : Nat} {i : Int32} {S : List Value} {Z : gZ} {I : gI} {J : gJ} (h : gTg8 (gKd Z a).1 a = true) (h0 : 0 ≤ i) (h1 : i.toNatClampNeg < (gKd Z a).2) : g_at 144 423 L (.int i :: .ref a :: S) Z I J = g_at 144 424 L (.int (I a i.toNatClampNeg) :: S) Z I J := gq_iald e_144_423 h h0 h1
set_option maxRecDepth 100000 in
theorem e_144_424 : g_Pg 144 424 = ga_callV 6 64 1 427 := (congrFun pg_144 424).trans rfl
theorem q_144_424 {L : List Value} {a0 : Int32} {a1 : Nat} {Z : gZ} {I : gI} {J : gJ} (h : (gKd Z a1).1 = 6) : g_at 144 424 L [.int a0, .ref a1] Z I J = (g_at 64 0 [.ref a1, .int a0] [] Z I J).bind (fun r => g_at 144 427 L (r.1.toList ++ []) r.2.1 r.2.2.1 r.2.2.2) := gq_callV e_144_424 rfl rfl h rfl rfl rfl rfl rfl
set_option maxRecDepth 100000 in
theorem e_144_427 : g_Pg 144 427 = ga_aload 2 428 := (congrFun pg_144 427).trans rfl
theorem q_144_427 {l0 l1 l3 : Value} {x : Nat} {S : List Value} {Z : gZ} {I : gI} {J : gJ} : g_at 144 427 [l0, l1, .ref x, l3] S Z I J = g_at 144 428 [l0, l1, .ref x, l3] (.ref x :: S) Z I J := gq_aload e_144_427 rfl
set_option maxRecDepth 100000 in
theorem e_144_428 : g_Pg 144 428 = ga_aload 0 429 := (congrFun pg_144 428).trans rfl
theorem q_144_428 {l1 l2 l3 : Value} {x : Nat} {S : List Value} {Z : gZ} {I : gI} {J : gJ} : g_at 144 428 [.ref x, l1, l2, l3] S Z I J = g_at 144 429 [.ref x, l1, l2, l3] (.ref x :: S) Z I J := gq_aload e_144_428 rfl
set_option maxRecDepth 100000 in
theorem e_144_429 : g_Pg 144 429 = ga_iload 3 430 := (congrFun pg_144 429).trans rfl
theorem q_144_429 {l0 l1 l2 : Value} {x : Int32} {S : List Value} {Z : gZ} {I : gI} {J : gJ} : g_at 144 429 [l0, l1, l2, .int x] S Z I J = g_at 144 430 [l0, l1, l2, .int x] (.int x :: S) Z I J := gq_iload e_144_429 rfl
set_option maxRecDepth 100000 in
theorem e_144_430 : g_Pg 144 430 = ga_push (.int 1) 431 := (congrFun pg_144 430).trans rfl
theorem q_144_430 {L : List Value} {S : List Value} {Z : gZ} {I : gI} {J : gJ} : g_at 144 430 L S Z I J = g_at 144 431 L (.int 1 :: S) Z I J := gq_push e_144_430
set_option maxRecDepth 100000 in
theorem e_144_431 : g_Pg 144 431 = ga_bin (fun x y => x + y) 432 := (congrFun pg_144 431).trans rfl
theorem q_144_431 {L : List Value} {x y : Int32} {S : List Value} {Z : gZ} {I : gI} {J : gJ} : g_at 144 431 L (.int y :: .int x :: S) Z I J = g_at 144 432 L (.int (x + y) :: S) Z I J := gq_bin e_144_431
set_option maxRecDepth 100000 in
theorem e_144_432 : g_Pg 144 432 = ga_iald 433 := (congrFun pg_144 432).trans rfl
theorem q_144_432 {L : List Value} {a : Nat} {i : Int32} {S : List Value} {Z : gZ} {I : gI} {J : gJ} (h : gTg8 (gKd Z a).1 a = true) (h0 : 0 ≤ i) (h1 : i.toNatClampNeg < (gKd Z a).2) : g_at 144 432 L (.int i :: .ref a :: S) Z I J = g_at 144 433 L (.int (I a i.toNatClampNeg) :: S) Z I J := gq_iald e_144_432 h h0 h1
set_option maxRecDepth 100000 in
theorem e_144_433 : g_Pg 144 433 = ga_callV 7 109 1 436 := (congrFun pg_144 433).trans rfl
theorem q_144_433 {L : List Value} {a0 : Int32} {a1 : Nat} {r2 : Int32} {Z : gZ} {I : gI} {J : gJ} (h : (gKd Z a1).1 = 7) : g_at 144 433 L [.int a0, .ref a1, .int r2] Z I J = (g_at 109 0 [.ref a1, .int a0, .null] [] Z I J).bind (fun r => g_at 144 436 L (r.1.toList ++ [.int r2]) r.2.1 r.2.2.1 r.2.2.2) := gq_callV e_144_433 rfl rfl h rfl rfl rfl rfl rfl
set_option maxRecDepth 100000 in
theorem e_144_436 : g_Pg 144 436 = ga_cmp (fun x y => decide (x = y)) 893 439 := (congrFun pg_144 436).trans rfl
theorem q_144_436 {L : List Value} {x y : Int32} {S : List Value} {Z : gZ} {I : gI} {J : gJ} : g_at 144 436 L (.int y :: .int x :: S) Z I J = if x = y then g_at 144 893 L S Z I J else g_at 144 439 L S Z I J := gq_cmp e_144_436 rfl
set_option maxRecDepth 100000 in
theorem e_144_439 : g_Pg 144 439 = ga_push (.int 0) 440 := (congrFun pg_144 439).trans rfl
theorem q_144_439 {L : List Value} {S : List Value} {Z : gZ} {I : gI} {J : gJ} : g_at 144 439 L S Z I J = g_at 144 440 L (.int 0 :: S) Z I J := gq_push e_144_439
set_option maxRecDepth 100000 in
theorem e_144_440 : g_Pg 144 440 = ga_zret := (congrFun pg_144 440).trans rfl
theorem q_144_440 {L : List Value} {x : Int32} {Z : gZ} {I : gI} {J : gJ} (h : gB01 x = true) : g_at 144 440 L [.int x] Z I J = some (some (.int x), Z, I, J) := gq_zret e_144_440 h
set_option maxRecDepth 100000 in
theorem e_144_441 : g_Pg 144 441 = ga_aload 1 442 := (congrFun pg_144 441).trans rfl
theorem q_144_441 {l0 l2 l3 : Value} {x : Nat} {S : List Value} {Z : gZ} {I : gI} {J : gJ} : g_at 144 441 [l0, .ref x, l2, l3] S Z I J = g_at 144 442 [l0, .ref x, l2, l3] (.ref x :: S) Z I J := gq_aload e_144_441 rfl
set_option maxRecDepth 100000 in
theorem e_144_442 : g_Pg 144 442 = ga_aload 0 443 := (congrFun pg_144 442).trans rfl
theorem q_144_442 {l1 l2 l3 : Value} {x : Nat} {S : List Value} {Z : gZ} {I : gI} {J : gJ} : g_at 144 442 [.ref x, l1, l2, l3] S Z I J = g_at 144 443 [.ref x, l1, l2, l3] (.ref x :: S) Z I J := gq_aload e_144_442 rfl
set_option maxRecDepth 100000 in
theorem e_144_443 : g_Pg 144 443 = ga_iload 3 444 := (congrFun pg_144 443).trans rfl
theorem q_144_443 {l0 l1 l2 : Value} {x : Int32} {S : List Value} {Z : gZ} {I : gI} {J : gJ} : g_at 144 443 [l0, l1, l2, .int x] S Z I J = g_at 144 444 [l0, l1, l2, .int x] (.int x :: S) Z I J := gq_iload e_144_443 rfl
set_option maxRecDepth 100000 in
theorem e_144_444 : g_Pg 144 444 = ga_push (.int 1) 445 := (congrFun pg_144 444).trans rfl
theorem q_144_444 {L : List Value} {S : List Value} {Z : gZ} {I : gI} {J : gJ} : g_at 144 444 L S Z I J = g_at 144 445 L (.int 1 :: S) Z I J := gq_push e_144_444
set_option maxRecDepth 100000 in
theorem e_144_445 : g_Pg 144 445 = ga_bin (fun x y => x + y) 446 := (congrFun pg_144 445).trans rfl
theorem q_144_445 {L : List Value} {x y : Int32} {S : List Value} {Z : gZ} {I : gI} {J : gJ} : g_at 144 445 L (.int y :: .int x :: S) Z I J = g_at 144 446 L (.int (x + y) :: S) Z I J := gq_bin e_144_445
set_option maxRecDepth 100000 in
theorem e_144_446 : g_Pg 144 446 = ga_iald 447 := (congrFun pg_144 446).trans rfl
theorem q_144_446 {L : List Value} {a : Nat} {i : Int32} {S : List Value} {Z : gZ} {I : gI} {J : gJ} (h : gTg8 (gKd Z a).1 a = true) (h0 : 0 ≤ i) (h1 : i.toNatClampNeg < (gKd Z a).2) : g_at 144 446 L (.int i :: .ref a :: S) Z I J = g_at 144 447 L (.int (I a i.toNatClampNeg) :: S) Z I J := gq_iald e_144_446 h h0 h1
set_option maxRecDepth 100000 in
theorem e_144_447 : g_Pg 144 447 = ga_callV 6 65 1 450 := (congrFun pg_144 447).trans rfl
theorem q_144_447 {L : List Value} {a0 : Int32} {a1 : Nat} {Z : gZ} {I : gI} {J : gJ} (h : (gKd Z a1).1 = 6) : g_at 144 447 L [.int a0, .ref a1] Z I J = (g_at 65 0 [.ref a1, .int a0] [] Z I J).bind (fun r => g_at 144 450 L (r.1.toList ++ []) r.2.1 r.2.2.1 r.2.2.2) := gq_callV e_144_447 rfl rfl h rfl rfl rfl rfl rfl
set_option maxRecDepth 100000 in
theorem e_144_450 : g_Pg 144 450 = ga_aload 2 451 := (congrFun pg_144 450).trans rfl
theorem q_144_450 {l0 l1 l3 : Value} {x : Nat} {S : List Value} {Z : gZ} {I : gI} {J : gJ} : g_at 144 450 [l0, l1, .ref x, l3] S Z I J = g_at 144 451 [l0, l1, .ref x, l3] (.ref x :: S) Z I J := gq_aload e_144_450 rfl
set_option maxRecDepth 100000 in
theorem e_144_451 : g_Pg 144 451 = ga_aload 0 452 := (congrFun pg_144 451).trans rfl
theorem q_144_451 {l1 l2 l3 : Value} {x : Nat} {S : List Value} {Z : gZ} {I : gI} {J : gJ} : g_at 144 451 [.ref x, l1, l2, l3] S Z I J = g_at 144 452 [.ref x, l1, l2, l3] (.ref x :: S) Z I J := gq_aload e_144_451 rfl
set_option maxRecDepth 100000 in
theorem e_144_452 : g_Pg 144 452 = ga_iload 3 453 := (congrFun pg_144 452).trans rfl
theorem q_144_452 {l0 l1 l2 : Value} {x : Int32} {S : List Value} {Z : gZ} {I : gI} {J : gJ} : g_at 144 452 [l0, l1, l2, .int x] S Z I J = g_at 144 453 [l0, l1, l2, .int x] (.int x :: S) Z I J := gq_iload e_144_452 rfl
set_option maxRecDepth 100000 in
theorem e_144_453 : g_Pg 144 453 = ga_push (.int 1) 454 := (congrFun pg_144 453).trans rfl
theorem q_144_453 {L : List Value} {S : List Value} {Z : gZ} {I : gI} {J : gJ} : g_at 144 453 L S Z I J = g_at 144 454 L (.int 1 :: S) Z I J := gq_push e_144_453
set_option maxRecDepth 100000 in
theorem e_144_454 : g_Pg 144 454 = ga_bin (fun x y => x + y) 455 := (congrFun pg_144 454).trans rfl
theorem q_144_454 {L : List Value} {x y : Int32} {S : List Value} {Z : gZ} {I : gI} {J : gJ} : g_at 144 454 L (.int y :: .int x :: S) Z I J = g_at 144 455 L (.int (x + y) :: S) Z I J := gq_bin e_144_454
set_option maxRecDepth 100000 in
theorem e_144_455 : g_Pg 144 455 = ga_iald 456 := (congrFun pg_144 455).trans rfl
theorem q_144_455 {L : List Value} {a : Nat} {i : Int32} {S : List Value} {Z : gZ} {I : gI} {J : gJ} (h : gTg8 (gKd Z a).1 a = true) (h0 : 0 ≤ i) (h1 : i.toNatClampNeg < (gKd Z a).2) : g_at 144 455 L (.int i :: .ref a :: S) Z I J = g_at 144 456 L (.int (I a i.toNatClampNeg) :: S) Z I J := gq_iald e_144_455 h h0 h1
set_option maxRecDepth 100000 in
theorem e_144_456 : g_Pg 144 456 = ga_callV 7 110 1 459 := (congrFun pg_144 456).trans rfl
theorem q_144_456 {L : List Value} {a0 : Int32} {a1 : Nat} {r2 : Int32} {Z : gZ} {I : gI} {J : gJ} (h : (gKd Z a1).1 = 7) : g_at 144 456 L [.int a0, .ref a1, .int r2] Z I J = (g_at 110 0 [.ref a1, .int a0, .null] [] Z I J).bind (fun r => g_at 144 459 L (r.1.toList ++ [.int r2]) r.2.1 r.2.2.1 r.2.2.2) := gq_callV e_144_456 rfl rfl h rfl rfl rfl rfl rfl
set_option maxRecDepth 100000 in
theorem e_144_459 : g_Pg 144 459 = ga_cmp (fun x y => decide (x = y)) 893 462 := (congrFun pg_144 459).trans rfl
theorem q_144_459 {L : List Value} {x y : Int32} {S : List Value} {Z : gZ} {I : gI} {J : gJ} : g_at 144 459 L (.int y :: .int x :: S) Z I J = if x = y then g_at 144 893 L S Z I J else g_at 144 462 L S Z I J := gq_cmp e_144_459 rfl
set_option maxRecDepth 100000 in
theorem e_144_462 : g_Pg 144 462 = ga_push (.int 0) 463 := (congrFun pg_144 462).trans rfl
theorem q_144_462 {L : List Value} {S : List Value} {Z : gZ} {I : gI} {J : gJ} : g_at 144 462 L S Z I J = g_at 144 463 L (.int 0 :: S) Z I J := gq_push e_144_462
set_option maxRecDepth 100000 in
theorem e_144_463 : g_Pg 144 463 = ga_zret := (congrFun pg_144 463).trans rfl
theorem q_144_463 {L : List Value} {x : Int32} {Z : gZ} {I : gI} {J : gJ} (h : gB01 x = true) : g_at 144 463 L [.int x] Z I J = some (some (.int x), Z, I, J) := gq_zret e_144_463 h
set_option maxRecDepth 100000 in
theorem e_144_464 : g_Pg 144 464 = ga_aload 1 465 := (congrFun pg_144 464).trans rfl
theorem q_144_464 {l0 l2 l3 : Value} {x : Nat} {S : List Value} {Z : gZ} {I : gI} {J : gJ} : g_at 144 464 [l0, .ref x, l2, l3] S Z I J = g_at 144 465 [l0, .ref x, l2, l3] (.ref x :: S) Z I J := gq_aload e_144_464 rfl
set_option maxRecDepth 100000 in
theorem e_144_465 : g_Pg 144 465 = ga_aload 0 466 := (congrFun pg_144 465).trans rfl
theorem q_144_465 {l1 l2 l3 : Value} {x : Nat} {S : List Value} {Z : gZ} {I : gI} {J : gJ} : g_at 144 465 [.ref x, l1, l2, l3] S Z I J = g_at 144 466 [.ref x, l1, l2, l3] (.ref x :: S) Z I J := gq_aload e_144_465 rfl
set_option maxRecDepth 100000 in
theorem e_144_466 : g_Pg 144 466 = ga_iload 3 467 := (congrFun pg_144 466).trans rfl
theorem q_144_466 {l0 l1 l2 : Value} {x : Int32} {S : List Value} {Z : gZ} {I : gI} {J : gJ} : g_at 144 466 [l0, l1, l2, .int x] S Z I J = g_at 144 467 [l0, l1, l2, .int x] (.int x :: S) Z I J := gq_iload e_144_466 rfl
set_option maxRecDepth 100000 in
theorem e_144_467 : g_Pg 144 467 = ga_push (.int 1) 468 := (congrFun pg_144 467).trans rfl
theorem q_144_467 {L : List Value} {S : List Value} {Z : gZ} {I : gI} {J : gJ} : g_at 144 467 L S Z I J = g_at 144 468 L (.int 1 :: S) Z I J := gq_push e_144_467
set_option maxRecDepth 100000 in
theorem e_144_468 : g_Pg 144 468 = ga_bin (fun x y => x + y) 469 := (congrFun pg_144 468).trans rfl
theorem q_144_468 {L : List Value} {x y : Int32} {S : List Value} {Z : gZ} {I : gI} {J : gJ} : g_at 144 468 L (.int y :: .int x :: S) Z I J = g_at 144 469 L (.int (x + y) :: S) Z I J := gq_bin e_144_468
set_option maxRecDepth 100000 in
theorem e_144_469 : g_Pg 144 469 = ga_iald 470 := (congrFun pg_144 469).trans rfl
theorem q_144_469 {L : List Value} {a : Nat} {i : Int32} {S : List Value} {Z : gZ} {I : gI} {J : gJ} (h : gTg8 (gKd Z a).1 a = true) (h0 : 0 ≤ i) (h1 : i.toNatClampNeg < (gKd Z a).2) : g_at 144 469 L (.int i :: .ref a :: S) Z I J = g_at 144 470 L (.int (I a i.toNatClampNeg) :: S) Z I J := gq_iald e_144_469 h h0 h1
set_option maxRecDepth 100000 in
theorem e_144_470 : g_Pg 144 470 = ga_aload 0 471 := (congrFun pg_144 470).trans rfl
theorem q_144_470 {l1 l2 l3 : Value} {x : Nat} {S : List Value} {Z : gZ} {I : gI} {J : gJ} : g_at 144 470 [.ref x, l1, l2, l3] S Z I J = g_at 144 471 [.ref x, l1, l2, l3] (.ref x :: S) Z I J := gq_aload e_144_470 rfl
set_option maxRecDepth 100000 in
theorem e_144_471 : g_Pg 144 471 = ga_iload 3 472 := (congrFun pg_144 471).trans rfl
theorem q_144_471 {l0 l1 l2 : Value} {x : Int32} {S : List Value} {Z : gZ} {I : gI} {J : gJ} : g_at 144 471 [l0, l1, l2, .int x] S Z I J = g_at 144 472 [l0, l1, l2, .int x] (.int x :: S) Z I J := gq_iload e_144_471 rfl
set_option maxRecDepth 100000 in
theorem e_144_472 : g_Pg 144 472 = ga_push (.int 2) 473 := (congrFun pg_144 472).trans rfl
theorem q_144_472 {L : List Value} {S : List Value} {Z : gZ} {I : gI} {J : gJ} : g_at 144 472 L S Z I J = g_at 144 473 L (.int 2 :: S) Z I J := gq_push e_144_472
set_option maxRecDepth 100000 in
theorem e_144_473 : g_Pg 144 473 = ga_bin (fun x y => x + y) 474 := (congrFun pg_144 473).trans rfl
theorem q_144_473 {L : List Value} {x y : Int32} {S : List Value} {Z : gZ} {I : gI} {J : gJ} : g_at 144 473 L (.int y :: .int x :: S) Z I J = g_at 144 474 L (.int (x + y) :: S) Z I J := gq_bin e_144_473
set_option maxRecDepth 100000 in
theorem e_144_474 : g_Pg 144 474 = ga_iald 475 := (congrFun pg_144 474).trans rfl
theorem q_144_474 {L : List Value} {a : Nat} {i : Int32} {S : List Value} {Z : gZ} {I : gI} {J : gJ} (h : gTg8 (gKd Z a).1 a = true) (h0 : 0 ≤ i) (h1 : i.toNatClampNeg < (gKd Z a).2) : g_at 144 474 L (.int i :: .ref a :: S) Z I J = g_at 144 475 L (.int (I a i.toNatClampNeg) :: S) Z I J := gq_iald e_144_474 h h0 h1
set_option maxRecDepth 100000 in
theorem e_144_475 : g_Pg 144 475 = ga_callV 6 66 2 478 := (congrFun pg_144 475).trans rfl
theorem q_144_475 {L : List Value} {a0 : Int32} {a1 : Int32} {a2 : Nat} {Z : gZ} {I : gI} {J : gJ} (h : (gKd Z a2).1 = 6) : g_at 144 475 L [.int a0, .int a1, .ref a2] Z I J = (g_at 66 0 [.ref a2, .int a1, .int a0] [] Z I J).bind (fun r => g_at 144 478 L (r.1.toList ++ []) r.2.1 r.2.2.1 r.2.2.2) := gq_callV e_144_475 rfl rfl h rfl rfl rfl rfl rfl
set_option maxRecDepth 100000 in
theorem e_144_478 : g_Pg 144 478 = ga_aload 2 479 := (congrFun pg_144 478).trans rfl
theorem q_144_478 {l0 l1 l3 : Value} {x : Nat} {S : List Value} {Z : gZ} {I : gI} {J : gJ} : g_at 144 478 [l0, l1, .ref x, l3] S Z I J = g_at 144 479 [l0, l1, .ref x, l3] (.ref x :: S) Z I J := gq_aload e_144_478 rfl
set_option maxRecDepth 100000 in
theorem e_144_479 : g_Pg 144 479 = ga_aload 0 480 := (congrFun pg_144 479).trans rfl
theorem q_144_479 {l1 l2 l3 : Value} {x : Nat} {S : List Value} {Z : gZ} {I : gI} {J : gJ} : g_at 144 479 [.ref x, l1, l2, l3] S Z I J = g_at 144 480 [.ref x, l1, l2, l3] (.ref x :: S) Z I J := gq_aload e_144_479 rfl
set_option maxRecDepth 100000 in
theorem e_144_480 : g_Pg 144 480 = ga_iload 3 481 := (congrFun pg_144 480).trans rfl
theorem q_144_480 {l0 l1 l2 : Value} {x : Int32} {S : List Value} {Z : gZ} {I : gI} {J : gJ} : g_at 144 480 [l0, l1, l2, .int x] S Z I J = g_at 144 481 [l0, l1, l2, .int x] (.int x :: S) Z I J := gq_iload e_144_480 rfl
set_option maxRecDepth 100000 in
theorem e_144_481 : g_Pg 144 481 = ga_push (.int 1) 482 := (congrFun pg_144 481).trans rfl
theorem q_144_481 {L : List Value} {S : List Value} {Z : gZ} {I : gI} {J : gJ} : g_at 144 481 L S Z I J = g_at 144 482 L (.int 1 :: S) Z I J := gq_push e_144_481
set_option maxRecDepth 100000 in
theorem e_144_482 : g_Pg 144 482 = ga_bin (fun x y => x + y) 483 := (congrFun pg_144 482).trans rfl
theorem q_144_482 {L : List Value} {x y : Int32} {S : List Value} {Z : gZ} {I : gI} {J : gJ} : g_at 144 482 L (.int y :: .int x :: S) Z I J = g_at 144 483 L (.int (x + y) :: S) Z I J := gq_bin e_144_482
set_option maxRecDepth 100000 in
theorem e_144_483 : g_Pg 144 483 = ga_iald 484 := (congrFun pg_144 483).trans rfl
theorem q_144_483 {L : List Value} {a : Nat} {i : Int32} {S : List Value} {Z : gZ} {I : gI} {J : gJ} (h : gTg8 (gKd Z a).1 a = true) (h0 : 0 ≤ i) (h1 : i.toNatClampNeg < (gKd Z a).2) : g_at 144 483 L (.int i :: .ref a :: S) Z I J = g_at 144 484 L (.int (I a i.toNatClampNeg) :: S) Z I J := gq_iald e_144_483 h h0 h1
set_option maxRecDepth 100000 in
theorem e_144_484 : g_Pg 144 484 = ga_aload 0 485 := (congrFun pg_144 484).trans rfl
theorem q_144_484 {l1 l2 l3 : Value} {x : Nat} {S : List Value} {Z : gZ} {I : gI} {J : gJ} : g_at 144 484 [.ref x, l1, l2, l3] S Z I J = g_at 144 485 [.ref x, l1, l2, l3] (.ref x :: S) Z I J := gq_aload e_144_484 rfl
set_option maxRecDepth 100000 in
theorem e_144_485 : g_Pg 144 485 = ga_iload 3 486 := (congrFun pg_144 485).trans rfl
theorem q_144_485 {l0 l1 l2 : Value} {x : Int32} {S : List Value} {Z : gZ} {I : gI} {J : gJ} : g_at 144 485 [l0, l1, l2, .int x] S Z I J = g_at 144 486 [l0, l1, l2, .int x] (.int x :: S) Z I J := gq_iload e_144_485 rfl
set_option maxRecDepth 100000 in
theorem e_144_486 : g_Pg 144 486 = ga_push (.int 2) 487 := (congrFun pg_144 486).trans rfl
theorem q_144_486 {L : List Value} {S : List Value} {Z : gZ} {I : gI} {J : gJ} : g_at 144 486 L S Z I J = g_at 144 487 L (.int 2 :: S) Z I J := gq_push e_144_486
set_option maxRecDepth 100000 in
theorem e_144_487 : g_Pg 144 487 = ga_bin (fun x y => x + y) 488 := (congrFun pg_144 487).trans rfl
theorem q_144_487 {L : List Value} {x y : Int32} {S : List Value} {Z : gZ} {I : gI} {J : gJ} : g_at 144 487 L (.int y :: .int x :: S) Z I J = g_at 144 488 L (.int (x + y) :: S) Z I J := gq_bin e_144_487
set_option maxRecDepth 100000 in
theorem e_144_488 : g_Pg 144 488 = ga_iald 489 := (congrFun pg_144 488).trans rfl
theorem q_144_488 {L : List Value} {a : Nat} {i : Int32} {S : List Value} {Z : gZ} {I : gI} {J : gJ} (h : gTg8 (gKd Z a).1 a = true) (h0 : 0 ≤ i) (h1 : i.toNatClampNeg < (gKd Z a).2) : g_at 144 488 L (.int i :: .ref a :: S) Z I J = g_at 144 489 L (.int (I a i.toNatClampNeg) :: S) Z I J := gq_iald e_144_488 h h0 h1
set_option maxRecDepth 100000 in
theorem e_144_489 : g_Pg 144 489 = ga_callV 7 115 2 492 := (congrFun pg_144 489).trans rfl
theorem q_144_489 {L : List Value} {a0 : Int32} {a1 : Int32} {a2 : Nat} {r3 : Int32} {Z : gZ} {I : gI} {J : gJ} (h : (gKd Z a2).1 = 7) : g_at 144 489 L [.int a0, .int a1, .ref a2, .int r3] Z I J = (g_at 115 0 [.ref a2, .int a1, .int a0] [] Z I J).bind (fun r => g_at 144 492 L (r.1.toList ++ [.int r3]) r.2.1 r.2.2.1 r.2.2.2) := gq_callV e_144_489 rfl rfl h rfl rfl rfl rfl rfl
set_option maxRecDepth 100000 in
theorem e_144_492 : g_Pg 144 492 = ga_cmp (fun x y => decide (x = y)) 893 495 := (congrFun pg_144 492).trans rfl
theorem q_144_492 {L : List Value} {x y : Int32} {S : List Value} {Z : gZ} {I : gI} {J : gJ} : g_at 144 492 L (.int y :: .int x :: S) Z I J = if x = y then g_at 144 893 L S Z I J else g_at 144 495 L S Z I J := gq_cmp e_144_492 rfl
set_option maxRecDepth 100000 in
theorem e_144_495 : g_Pg 144 495 = ga_push (.int 0) 496 := (congrFun pg_144 495).trans rfl
theorem q_144_495 {L : List Value} {S : List Value} {Z : gZ} {I : gI} {J : gJ} : g_at 144 495 L S Z I J = g_at 144 496 L (.int 0 :: S) Z I J := gq_push e_144_495
set_option maxRecDepth 100000 in
theorem e_144_496 : g_Pg 144 496 = ga_zret := (congrFun pg_144 496).trans rfl
theorem q_144_496 {L : List Value} {x : Int32} {Z : gZ} {I : gI} {J : gJ} (h : gB01 x = true) : g_at 144 496 L [.int x] Z I J = some (some (.int x), Z, I, J) := gq_zret e_144_496 h
set_option maxRecDepth 100000 in
theorem e_144_497 : g_Pg 144 497 = ga_aload 1 498 := (congrFun pg_144 497).trans rfl
theorem q_144_497 {l0 l2 l3 : Value} {x : Nat} {S : List Value} {Z : gZ} {I : gI} {J : gJ} : g_at 144 497 [l0, .ref x, l2, l3] S Z I J = g_at 144 498 [l0, .ref x, l2, l3] (.ref x :: S) Z I J := gq_aload e_144_497 rfl
set_option maxRecDepth 100000 in
theorem e_144_498 : g_Pg 144 498 = ga_aload 0 499 := (congrFun pg_144 498).trans rfl
theorem q_144_498 {l1 l2 l3 : Value} {x : Nat} {S : List Value} {Z : gZ} {I : gI} {J : gJ} : g_at 144 498 [.ref x, l1, l2, l3] S Z I J = g_at 144 499 [.ref x, l1, l2, l3] (.ref x :: S) Z I J := gq_aload e_144_498 rfl
set_option maxRecDepth 100000 in
theorem e_144_499 : g_Pg 144 499 = ga_iload 3 500 := (congrFun pg_144 499).trans rfl
theorem q_144_499 {l0 l1 l2 : Value} {x : Int32} {S : List Value} {Z : gZ} {I : gI} {J : gJ} : g_at 144 499 [l0, l1, l2, .int x] S Z I J = g_at 144 500 [l0, l1, l2, .int x] (.int x :: S) Z I J := gq_iload e_144_499 rfl
set_option maxRecDepth 100000 in
theorem e_144_500 : g_Pg 144 500 = ga_push (.int 1) 501 := (congrFun pg_144 500).trans rfl
theorem q_144_500 {L : List Value} {S : List Value} {Z : gZ} {I : gI} {J : gJ} : g_at 144 500 L S Z I J = g_at 144 501 L (.int 1 :: S) Z I J := gq_push e_144_500
set_option maxRecDepth 100000 in
theorem e_144_501 : g_Pg 144 501 = ga_bin (fun x y => x + y) 502 := (congrFun pg_144 501).trans rfl
theorem q_144_501 {L : List Value} {x y : Int32} {S : List Value} {Z : gZ} {I : gI} {J : gJ} : g_at 144 501 L (.int y :: .int x :: S) Z I J = g_at 144 502 L (.int (x + y) :: S) Z I J := gq_bin e_144_501
set_option maxRecDepth 100000 in
theorem e_144_502 : g_Pg 144 502 = ga_iald 503 := (congrFun pg_144 502).trans rfl
theorem q_144_502 {L : List Value} {a : Nat} {i : Int32} {S : List Value} {Z : gZ} {I : gI} {J : gJ} (h : gTg8 (gKd Z a).1 a = true) (h0 : 0 ≤ i) (h1 : i.toNatClampNeg < (gKd Z a).2) : g_at 144 502 L (.int i :: .ref a :: S) Z I J = g_at 144 503 L (.int (I a i.toNatClampNeg) :: S) Z I J := gq_iald e_144_502 h h0 h1
set_option maxRecDepth 100000 in
theorem e_144_503 : g_Pg 144 503 = ga_callV 6 67 1 506 := (congrFun pg_144 503).trans rfl
theorem q_144_503 {L : List Value} {a0 : Int32} {a1 : Nat} {Z : gZ} {I : gI} {J : gJ} (h : (gKd Z a1).1 = 6) : g_at 144 503 L [.int a0, .ref a1] Z I J = (g_at 67 0 [.ref a1, .int a0] [] Z I J).bind (fun r => g_at 144 506 L (r.1.toList ++ []) r.2.1 r.2.2.1 r.2.2.2) := gq_callV e_144_503 rfl rfl h rfl rfl rfl rfl rfl
set_option maxRecDepth 100000 in
theorem e_144_506 : g_Pg 144 506 = ga_aload 2 507 := (congrFun pg_144 506).trans rfl
theorem q_144_506 {l0 l1 l3 : Value} {x : Nat} {S : List Value} {Z : gZ} {I : gI} {J : gJ} : g_at 144 506 [l0, l1, .ref x, l3] S Z I J = g_at 144 507 [l0, l1, .ref x, l3] (.ref x :: S) Z I J := gq_aload e_144_506 rfl
set_option maxRecDepth 100000 in
theorem e_144_507 : g_Pg 144 507 = ga_aload 0 508 := (congrFun pg_144 507).trans rfl
theorem q_144_507 {l1 l2 l3 : Value} {x : Nat} {S : List Value} {Z : gZ} {I : gI} {J : gJ} : g_at 144 507 [.ref x, l1, l2, l3] S Z I J = g_at 144 508 [.ref x, l1, l2, l3] (.ref x :: S) Z I J := gq_aload e_144_507 rfl
set_option maxRecDepth 100000 in
theorem e_144_508 : g_Pg 144 508 = ga_iload 3 509 := (congrFun pg_144 508).trans rfl
theorem q_144_508 {l0 l1 l2 : Value} {x : Int32} {S : List Value} {Z : gZ} {I : gI} {J : gJ} : g_at 144 508 [l0, l1, l2, .int x] S Z I J = g_at 144 509 [l0, l1, l2, .int x] (.int x :: S) Z I J := gq_iload e_144_508 rfl
set_option maxRecDepth 100000 in
theorem e_144_509 : g_Pg 144 509 = ga_push (.int 1) 510 := (congrFun pg_144 509).trans rfl
theorem q_144_509 {L : List Value} {S : List Value} {Z : gZ} {I : gI} {J : gJ} : g_at 144 509 L S Z I J = g_at 144 510 L (.int 1 :: S) Z I J := gq_push e_144_509
set_option maxRecDepth 100000 in
theorem e_144_510 : g_Pg 144 510 = ga_bin (fun x y => x + y) 511 := (congrFun pg_144 510).trans rfl
theorem q_144_510 {L : List Value} {x y : Int32} {S : List Value} {Z : gZ} {I : gI} {J : gJ} : g_at 144 510 L (.int y :: .int x :: S) Z I J = g_at 144 511 L (.int (x + y) :: S) Z I J := gq_bin e_144_510
set_option maxRecDepth 100000 in
theorem e_144_511 : g_Pg 144 511 = ga_iald 512 := (congrFun pg_144 511).trans rfl
theorem q_144_511 {L : List Value} {a : Nat} {i : Int32} {S : List Value} {Z : gZ} {I : gI} {J : gJ} (h : gTg8 (gKd Z a).1 a = true) (h0 : 0 ≤ i) (h1 : i.toNatClampNeg < (gKd Z a).2) : g_at 144 511 L (.int i :: .ref a :: S) Z I J = g_at 144 512 L (.int (I a i.toNatClampNeg) :: S) Z I J := gq_iald e_144_511 h h0 h1
set_option maxRecDepth 100000 in
theorem e_144_512 : g_Pg 144 512 = ga_callV 7 116 1 515 := (congrFun pg_144 512).trans rfl
theorem q_144_512 {L : List Value} {a0 : Int32} {a1 : Nat} {r2 : Int32} {Z : gZ} {I : gI} {J : gJ} (h : (gKd Z a1).1 = 7) : g_at 144 512 L [.int a0, .ref a1, .int r2] Z I J = (g_at 116 0 [.ref a1, .int a0] [] Z I J).bind (fun r => g_at 144 515 L (r.1.toList ++ [.int r2]) r.2.1 r.2.2.1 r.2.2.2) := gq_callV e_144_512 rfl rfl h rfl rfl rfl rfl rfl
set_option maxRecDepth 100000 in
theorem e_144_515 : g_Pg 144 515 = ga_cmp (fun x y => decide (x = y)) 893 518 := (congrFun pg_144 515).trans rfl
theorem q_144_515 {L : List Value} {x y : Int32} {S : List Value} {Z : gZ} {I : gI} {J : gJ} : g_at 144 515 L (.int y :: .int x :: S) Z I J = if x = y then g_at 144 893 L S Z I J else g_at 144 518 L S Z I J := gq_cmp e_144_515 rfl
set_option maxRecDepth 100000 in
theorem e_144_518 : g_Pg 144 518 = ga_push (.int 0) 519 := (congrFun pg_144 518).trans rfl
theorem q_144_518 {L : List Value} {S : List Value} {Z : gZ} {I : gI} {J : gJ} : g_at 144 518 L S Z I J = g_at 144 519 L (.int 0 :: S) Z I J := gq_push e_144_518
set_option maxRecDepth 100000 in
theorem e_144_519 : g_Pg 144 519 = ga_zret := (congrFun pg_144 519).trans rfl
theorem q_144_519 {L : List Value} {x : Int32} {Z : gZ} {I : gI} {J : gJ} (h : gB01 x = true) : g_at 144 519 L [.int x] Z I J = some (some (.int x), Z, I, J) := gq_zret e_144_519 h
set_option maxRecDepth 100000 in
theorem e_144_520 : g_Pg 144 520 = ga_aload 1 521 := (congrFun pg_144 520).trans rfl
theorem q_144_520 {l0 l2 l3 : Value} {x : Nat} {S : List Value} {Z : gZ} {I : gI} {J : gJ} : g_at 144 520 [l0, .ref x, l2, l3] S Z I J = g_at 144 521 [l0, .ref x, l2, l3] (.ref x :: S) Z I J := gq_aload e_144_520 rfl
set_option maxRecDepth 100000 in
theorem e_144_521 : g_Pg 144 521 = ga_aload 0 522 := (congrFun pg_144 521).trans rfl
theorem q_144_521 {l1 l2 l3 : Value} {x : Nat} {S : List Value} {Z : gZ} {I : gI} {J : gJ} : g_at 144 521 [.ref x, l1, l2, l3] S Z I J = g_at 144 522 [.ref x, l1, l2, l3] (.ref x :: S) Z I J := gq_aload e_144_521 rfl
set_option maxRecDepth 100000 in
theorem e_144_522 : g_Pg 144 522 = ga_iload 3 523 := (congrFun pg_144 522).trans rfl
theorem q_144_522 {l0 l1 l2 : Value} {x : Int32} {S : List Value} {Z : gZ} {I : gI} {J : gJ} : g_at 144 522 [l0, l1, l2, .int x] S Z I J = g_at 144 523 [l0, l1, l2, .int x] (.int x :: S) Z I J := gq_iload e_144_522 rfl
set_option maxRecDepth 100000 in
theorem e_144_523 : g_Pg 144 523 = ga_push (.int 1) 524 := (congrFun pg_144 523).trans rfl
theorem q_144_523 {L : List Value} {S : List Value} {Z : gZ} {I : gI} {J : gJ} : g_at 144 523 L S Z I J = g_at 144 524 L (.int 1 :: S) Z I J := gq_push e_144_523
set_option maxRecDepth 100000 in
theorem e_144_524 : g_Pg 144 524 = ga_bin (fun x y => x + y) 525 := (congrFun pg_144 524).trans rfl
theorem q_144_524 {L : List Value} {x y : Int32} {S : List Value} {Z : gZ} {I : gI} {J : gJ} : g_at 144 524 L (.int y :: .int x :: S) Z I J = g_at 144 525 L (.int (x + y) :: S) Z I J := gq_bin e_144_524
set_option maxRecDepth 100000 in
theorem e_144_525 : g_Pg 144 525 = ga_iald 526 := (congrFun pg_144 525).trans rfl
theorem q_144_525 {L : List Value} {a : Nat} {i : Int32} {S : List Value} {Z : gZ} {I : gI} {J : gJ} (h : gTg8 (gKd Z a).1 a = true) (h0 : 0 ≤ i) (h1 : i.toNatClampNeg < (gKd Z a).2) : g_at 144 525 L (.int i :: .ref a :: S) Z I J = g_at 144 526 L (.int (I a i.toNatClampNeg) :: S) Z I J := gq_iald e_144_525 h h0 h1
set_option maxRecDepth 100000 in
theorem e_144_526 : g_Pg 144 526 = ga_callV 6 68 1 529 := (congrFun pg_144 526).trans rfl
theorem q_144_526 {L : List Value} {a0 : Int32} {a1 : Nat} {Z : gZ} {I : gI} {J : gJ} (h : (gKd Z a1).1 = 6) : g_at 144 526 L [.int a0, .ref a1] Z I J = (g_at 68 0 [.ref a1, .int a0] [] Z I J).bind (fun r => g_at 144 529 L (r.1.toList ++ []) r.2.1 r.2.2.1 r.2.2.2) := gq_callV e_144_526 rfl rfl h rfl rfl rfl rfl rfl
set_option maxRecDepth 100000 in
theorem e_144_529 : g_Pg 144 529 = ga_aload 2 530 := (congrFun pg_144 529).trans rfl
theorem q_144_529 {l0 l1 l3 : Value} {x : Nat} {S : List Value} {Z : gZ} {I : gI} {J : gJ} : g_at 144 529 [l0, l1, .ref x, l3] S Z I J = g_at 144 530 [l0, l1, .ref x, l3] (.ref x :: S) Z I J := gq_aload e_144_529 rfl
set_option maxRecDepth 100000 in
theorem e_144_530 : g_Pg 144 530 = ga_aload 0 531 := (congrFun pg_144 530).trans rfl
theorem q_144_530 {l1 l2 l3 : Value} {x : Nat} {S : List Value} {Z : gZ} {I : gI} {J : gJ} : g_at 144 530 [.ref x, l1, l2, l3] S Z I J = g_at 144 531 [.ref x, l1, l2, l3] (.ref x :: S) Z I J := gq_aload e_144_530 rfl
set_option maxRecDepth 100000 in
theorem e_144_531 : g_Pg 144 531 = ga_iload 3 532 := (congrFun pg_144 531).trans rfl
theorem q_144_531 {l0 l1 l2 : Value} {x : Int32} {S : List Value} {Z : gZ} {I : gI} {J : gJ} : g_at 144 531 [l0, l1, l2, .int x] S Z I J = g_at 144 532 [l0, l1, l2, .int x] (.int x :: S) Z I J := gq_iload e_144_531 rfl
set_option maxRecDepth 100000 in
theorem e_144_532 : g_Pg 144 532 = ga_push (.int 1) 533 := (congrFun pg_144 532).trans rfl
theorem q_144_532 {L : List Value} {S : List Value} {Z : gZ} {I : gI} {J : gJ} : g_at 144 532 L S Z I J = g_at 144 533 L (.int 1 :: S) Z I J := gq_push e_144_532
set_option maxRecDepth 100000 in
theorem e_144_533 : g_Pg 144 533 = ga_bin (fun x y => x + y) 534 := (congrFun pg_144 533).trans rfl
theorem q_144_533 {L : List Value} {x y : Int32} {S : List Value} {Z : gZ} {I : gI} {J : gJ} : g_at 144 533 L (.int y :: .int x :: S) Z I J = g_at 144 534 L (.int (x + y) :: S) Z I J := gq_bin e_144_533
set_option maxRecDepth 100000 in
theorem e_144_534 : g_Pg 144 534 = ga_iald 535 := (congrFun pg_144 534).trans rfl
theorem q_144_534 {L : List Value} {a : Nat} {i : Int32} {S : List Value} {Z : gZ} {I : gI} {J : gJ} (h : gTg8 (gKd Z a).1 a = true) (h0 : 0 ≤ i) (h1 : i.toNatClampNeg < (gKd Z a).2) : g_at 144 534 L (.int i :: .ref a :: S) Z I J = g_at 144 535 L (.int (I a i.toNatClampNeg) :: S) Z I J := gq_iald e_144_534 h h0 h1
set_option maxRecDepth 100000 in
theorem e_144_535 : g_Pg 144 535 = ga_callV 7 117 1 538 := (congrFun pg_144 535).trans rfl
theorem q_144_535 {L : List Value} {a0 : Int32} {a1 : Nat} {r2 : Int32} {Z : gZ} {I : gI} {J : gJ} (h : (gKd Z a1).1 = 7) : g_at 144 535 L [.int a0, .ref a1, .int r2] Z I J = (g_at 117 0 [.ref a1, .int a0, .null, .null] [] Z I J).bind (fun r => g_at 144 538 L (r.1.toList ++ [.int r2]) r.2.1 r.2.2.1 r.2.2.2) := gq_callV e_144_535 rfl rfl h rfl rfl rfl rfl rfl
set_option maxRecDepth 100000 in
theorem e_144_538 : g_Pg 144 538 = ga_cmp (fun x y => decide (x = y)) 893 541 := (congrFun pg_144 538).trans rfl
theorem q_144_538 {L : List Value} {x y : Int32} {S : List Value} {Z : gZ} {I : gI} {J : gJ} : g_at 144 538 L (.int y :: .int x :: S) Z I J = if x = y then g_at 144 893 L S Z I J else g_at 144 541 L S Z I J := gq_cmp e_144_538 rfl
set_option maxRecDepth 100000 in
theorem e_144_541 : g_Pg 144 541 = ga_push (.int 0) 542 := (congrFun pg_144 541).trans rfl
theorem q_144_541 {L : List Value} {S : List Value} {Z : gZ} {I : gI} {J : gJ} : g_at 144 541 L S Z I J = g_at 144 542 L (.int 0 :: S) Z I J := gq_push e_144_541
set_option maxRecDepth 100000 in
theorem e_144_542 : g_Pg 144 542 = ga_zret := (congrFun pg_144 542).trans rfl
theorem q_144_542 {L : List Value} {x : Int32} {Z : gZ} {I : gI} {J : gJ} (h : gB01 x = true) : g_at 144 542 L [.int x] Z I J = some (some (.int x), Z, I, J) := gq_zret e_144_542 h
set_option maxRecDepth 100000 in
theorem e_144_543 : g_Pg 144 543 = ga_aload 1 544 := (congrFun pg_144 543).trans rfl
theorem q_144_543 {l0 l2 l3 : Value} {x : Nat} {S : List Value} {Z : gZ} {I : gI} {J : gJ} : g_at 144 543 [l0, .ref x, l2, l3] S Z I J = g_at 144 544 [l0, .ref x, l2, l3] (.ref x :: S) Z I J := gq_aload e_144_543 rfl
set_option maxRecDepth 100000 in
theorem e_144_544 : g_Pg 144 544 = ga_aload 0 545 := (congrFun pg_144 544).trans rfl
theorem q_144_544 {l1 l2 l3 : Value} {x : Nat} {S : List Value} {Z : gZ} {I : gI} {J : gJ} : g_at 144 544 [.ref x, l1, l2, l3] S Z I J = g_at 144 545 [.ref x, l1, l2, l3] (.ref x :: S) Z I J := gq_aload e_144_544 rfl
set_option maxRecDepth 100000 in
theorem e_144_545 : g_Pg 144 545 = ga_iload 3 546 := (congrFun pg_144 545).trans rfl
theorem q_144_545 {l0 l1 l2 : Value} {x : Int32} {S : List Value} {Z : gZ} {I : gI} {J : gJ} : g_at 144 545 [l0, l1, l2, .int x] S Z I J = g_at 144 546 [l0, l1, l2, .int x] (.int x :: S) Z I J := gq_iload e_144_545 rfl
set_option maxRecDepth 100000 in
theorem e_144_546 : g_Pg 144 546 = ga_push (.int 1) 547 := (congrFun pg_144 546).trans rfl
theorem q_144_546 {L : List Value} {S : List Value} {Z : gZ} {I : gI} {J : gJ} : g_at 144 546 L S Z I J = g_at 144 547 L (.int 1 :: S) Z I J := gq_push e_144_546
set_option maxRecDepth 100000 in
theorem e_144_547 : g_Pg 144 547 = ga_bin (fun x y => x + y) 548 := (congrFun pg_144 547).trans rfl
theorem q_144_547 {L : List Value} {x y : Int32} {S : List Value} {Z : gZ} {I : gI} {J : gJ} : g_at 144 547 L (.int y :: .int x :: S) Z I J = g_at 144 548 L (.int (x + y) :: S) Z I J := gq_bin e_144_547
set_option maxRecDepth 100000 in
theorem e_144_548 : g_Pg 144 548 = ga_iald 549 := (congrFun pg_144 548).trans rfl
theorem q_144_548 {L : List Value} {a : Nat} {i : Int32} {S : List Value} {Z : gZ} {I : gI} {J : gJ} (h : gTg8 (gKd Z a).1 a = true) (h0 : 0 ≤ i) (h1 : i.toNatClampNeg < (gKd Z a).2) : g_at 144 548 L (.int i :: .ref a :: S) Z I J = g_at 144 549 L (.int (I a i.toNatClampNeg) :: S) Z I J := gq_iald e_144_548 h h0 h1
set_option maxRecDepth 100000 in
theorem e_144_549 : g_Pg 144 549 = ga_callV 6 69 1 552 := (congrFun pg_144 549).trans rfl
theorem q_144_549 {L : List Value} {a0 : Int32} {a1 : Nat} {Z : gZ} {I : gI} {J : gJ} (h : (gKd Z a1).1 = 6) : g_at 144 549 L [.int a0, .ref a1] Z I J = (g_at 69 0 [.ref a1, .int a0] [] Z I J).bind (fun r => g_at 144 552 L (r.1.toList ++ []) r.2.1 r.2.2.1 r.2.2.2) := gq_callV e_144_549 rfl rfl h rfl rfl rfl rfl rfl
set_option maxRecDepth 100000 in
theorem e_144_552 : g_Pg 144 552 = ga_aload 2 553 := (congrFun pg_144 552).trans rfl
theorem q_144_552 {l0 l1 l3 : Value} {x : Nat} {S : List Value} {Z : gZ} {I : gI} {J : gJ} : g_at 144 552 [l0, l1, .ref x, l3] S Z I J = g_at 144 553 [l0, l1, .ref x, l3] (.ref x :: S) Z I J := gq_aload e_144_552 rfl
set_option maxRecDepth 100000 in
theorem e_144_553 : g_Pg 144 553 = ga_aload 0 554 := (congrFun pg_144 553).trans rfl
theorem q_144_553 {l1 l2 l3 : Value} {x : Nat} {S : List Value} {Z : gZ} {I : gI} {J : gJ} : g_at 144 553 [.ref x, l1, l2, l3] S Z I J = g_at 144 554 [.ref x, l1, l2, l3] (.ref x :: S) Z I J := gq_aload e_144_553 rfl
set_option maxRecDepth 100000 in
theorem e_144_554 : g_Pg 144 554 = ga_iload 3 555 := (congrFun pg_144 554).trans rfl
theorem q_144_554 {l0 l1 l2 : Value} {x : Int32} {S : List Value} {Z : gZ} {I : gI} {J : gJ} : g_at 144 554 [l0, l1, l2, .int x] S Z I J = g_at 144 555 [l0, l1, l2, .int x] (.int x :: S) Z I J := gq_iload e_144_554 rfl
set_option maxRecDepth 100000 in
theorem e_144_555 : g_Pg 144 555 = ga_push (.int 1) 556 := (congrFun pg_144 555).trans rfl
theorem q_144_555 {L : List Value} {S : List Value} {Z : gZ} {I : gI} {J : gJ} : g_at 144 555 L S Z I J = g_at 144 556 L (.int 1 :: S) Z I J := gq_push e_144_555
set_option maxRecDepth 100000 in
theorem e_144_556 : g_Pg 144 556 = ga_bin (fun x y => x + y) 557 := (congrFun pg_144 556).trans rfl
theorem q_144_556 {L : List Value} {x y : Int32} {S : List Value} {Z : gZ} {I : gI} {J : gJ} : g_at 144 556 L (.int y :: .int x :: S) Z I J = g_at 144 557 L (.int (x + y) :: S) Z I J := gq_bin e_144_556
set_option maxRecDepth 100000 in
theorem e_144_557 : g_Pg 144 557 = ga_iald 558 := (congrFun pg_144 557).trans rfl
theorem q_144_557 {L : List Value} {a : Nat} {i : Int32} {S : List Value} {Z : gZ} {I : gI} {J : gJ} (h : gTg8 (gKd Z a).1 a = true) (h0 : 0 ≤ i) (h1 : i.toNatClampNeg < (gKd Z a).2) : g_at 144 557 L (.int i :: .ref a :: S) Z I J = g_at 144 558 L (.int (I a i.toNatClampNeg) :: S) Z I J := gq_iald e_144_557 h h0 h1
set_option maxRecDepth 100000 in
theorem e_144_558 : g_Pg 144 558 = ga_callV 7 118 1 561 := (congrFun pg_144 558).trans rfl
theorem q_144_558 {L : List Value} {a0 : Int32} {a1 : Nat} {r2 : Int32} {Z : gZ} {I : gI} {J : gJ} (h : (gKd Z a1).1 = 7) : g_at 144 558 L [.int a0, .ref a1, .int r2] Z I J = (g_at 118 0 [.ref a1, .int a0] [] Z I J).bind (fun r => g_at 144 561 L (r.1.toList ++ [.int r2]) r.2.1 r.2.2.1 r.2.2.2) := gq_callV e_144_558 rfl rfl h rfl rfl rfl rfl rfl
set_option maxRecDepth 100000 in
theorem e_144_561 : g_Pg 144 561 = ga_cmp (fun x y => decide (x = y)) 893 564 := (congrFun pg_144 561).trans rfl
theorem q_144_561 {L : List Value} {x y : Int32} {S : List Value} {Z : gZ} {I : gI} {J : gJ} : g_at 144 561 L (.int y :: .int x :: S) Z I J = if x = y then g_at 144 893 L S Z I J else g_at 144 564 L S Z I J := gq_cmp e_144_561 rfl
set_option maxRecDepth 100000 in
theorem e_144_564 : g_Pg 144 564 = ga_push (.int 0) 565 := (congrFun pg_144 564).trans rfl
theorem q_144_564 {L : List Value} {S : List Value} {Z : gZ} {I : gI} {J : gJ} : g_at 144 564 L S Z I J = g_at 144 565 L (.int 0 :: S) Z I J := gq_push e_144_564
set_option maxRecDepth 100000 in
theorem e_144_565 : g_Pg 144 565 = ga_zret := (congrFun pg_144 565).trans rfl
theorem q_144_565 {L : List Value} {x : Int32} {Z : gZ} {I : gI} {J : gJ} (h : gB01 x = true) : g_at 144 565 L [.int x] Z I J = some (some (.int x), Z, I, J) := gq_zret e_144_565 h
set_option maxRecDepth 100000 in
theorem e_144_566 : g_Pg 144 566 = ga_aload 1 567 := (congrFun pg_144 566).trans rfl
theorem q_144_566 {l0 l2 l3 : Value} {x : Nat} {S : List Value} {Z : gZ} {I : gI} {J : gJ} : g_at 144 566 [l0, .ref x, l2, l3] S Z I J = g_at 144 567 [l0, .ref x, l2, l3] (.ref x :: S) Z I J := gq_aload e_144_566 rfl
set_option maxRecDepth 100000 in
theorem e_144_567 : g_Pg 144 567 = ga_aload 0 568 := (congrFun pg_144 567).trans rfl
theorem q_144_567 {l1 l2 l3 : Value} {x : Nat} {S : List Value} {Z : gZ} {I : gI} {J : gJ} : g_at 144 567 [.ref x, l1, l2, l3] S Z I J = g_at 144 568 [.ref x, l1, l2, l3] (.ref x :: S) Z I J := gq_aload e_144_567 rfl
set_option maxRecDepth 100000 in
theorem e_144_568 : g_Pg 144 568 = ga_iload 3 569 := (congrFun pg_144 568).trans rfl
theorem q_144_568 {l0 l1 l2 : Value} {x : Int32} {S : List Value} {Z : gZ} {I : gI} {J : gJ} : g_at 144 568 [l0, l1, l2, .int x] S Z I J = g_at 144 569 [l0, l1, l2, .int x] (.int x :: S) Z I J := gq_iload e_144_568 rfl
set_option maxRecDepth 100000 in
theorem e_144_569 : g_Pg 144 569 = ga_push (.int 1) 570 := (congrFun pg_144 569).trans rfl
theorem q_144_569 {L : List Value} {S : List Value} {Z : gZ} {I : gI} {J : gJ} : g_at 144 569 L S Z I J = g_at 144 570 L (.int 1 :: S) Z I J := gq_push e_144_569
set_option maxRecDepth 100000 in
theorem e_144_570 : g_Pg 144 570 = ga_bin (fun x y => x + y) 571 := (congrFun pg_144 570).trans rfl
theorem q_144_570 {L : List Value} {x y : Int32} {S : List Value} {Z : gZ} {I : gI} {J : gJ} : g_at 144 570 L (.int y :: .int x :: S) Z I J = g_at 144 571 L (.int (x + y) :: S) Z I J := gq_bin e_144_570
set_option maxRecDepth 100000 in
theorem e_144_571 : g_Pg 144 571 = ga_iald 572 := (congrFun pg_144 571).trans rfl
theorem q_144_571 {L : List Value} {a : Nat} {i : Int32} {S : List Value} {Z : gZ} {I : gI} {J : gJ} (h : gTg8 (gKd Z a).1 a = true) (h0 : 0 ≤ i) (h1 : i.toNatClampNeg < (gKd Z a).2) : g_at 144 571 L (.int i :: .ref a :: S) Z I J = g_at 144 572 L (.int (I a i.toNatClampNeg) :: S) Z I J := gq_iald e_144_571 h h0 h1
set_option maxRecDepth 100000 in
theorem e_144_572 : g_Pg 144 572 = ga_aload 0 573 := (congrFun pg_144 572).trans rfl
theorem q_144_572 {l1 l2 l3 : Value} {x : Nat} {S : List Value} {Z : gZ} {I : gI} {J : gJ} : g_at 144 572 [.ref x, l1, l2, l3] S Z I J = g_at 144 573 [.ref x, l1, l2, l3] (.ref x :: S) Z I J := gq_aload e_144_572 rfl
set_option maxRecDepth 100000 in
theorem e_144_573 : g_Pg 144 573 = ga_iload 3 574 := (congrFun pg_144 573).trans rfl
theorem q_144_573 {l0 l1 l2 : Value} {x : Int32} {S : List Value} {Z : gZ} {I : gI} {J : gJ} : g_at 144 573 [l0, l1, l2, .int x] S Z I J = g_at 144 574 [l0, l1, l2, .int x] (.int x :: S) Z I J := gq_iload e_144_573 rfl
set_option maxRecDepth 100000 in
theorem e_144_574 : g_Pg 144 574 = ga_push (.int 2) 575 := (congrFun pg_144 574).trans rfl
theorem q_144_574 {L : List Value} {S : List Value} {Z : gZ} {I : gI} {J : gJ} : g_at 144 574 L S Z I J = g_at 144 575 L (.int 2 :: S) Z I J := gq_push e_144_574
set_option maxRecDepth 100000 in
theorem e_144_575 : g_Pg 144 575 = ga_bin (fun x y => x + y) 576 := (congrFun pg_144 575).trans rfl
theorem q_144_575 {L : List Value} {x y : Int32} {S : List Value} {Z : gZ} {I : gI} {J : gJ} : g_at 144 575 L (.int y :: .int x :: S) Z I J = g_at 144 576 L (.int (x + y) :: S) Z I J := gq_bin e_144_575
set_option maxRecDepth 100000 in
theorem e_144_576 : g_Pg 144 576 = ga_iald 577 := (congrFun pg_144 576).trans rfl
theorem q_144_576 {L : List Value} {a : Nat} {i : Int32} {S : List Value} {Z : gZ} {I : gI} {J : gJ} (h : gTg8 (gKd Z a).1 a = true) (h0 : 0 ≤ i) (h1 : i.toNatClampNeg < (gKd Z a).2) : g_at 144 576 L (.int i :: .ref a :: S) Z I J = g_at 144 577 L (.int (I a i.toNatClampNeg) :: S) Z I J := gq_iald e_144_576 h h0 h1
set_option maxRecDepth 100000 in
theorem e_144_577 : g_Pg 144 577 = ga_aload 0 578 := (congrFun pg_144 577).trans rfl
theorem q_144_577 {l1 l2 l3 : Value} {x : Nat} {S : List Value} {Z : gZ} {I : gI} {J : gJ} : g_at 144 577 [.ref x, l1, l2, l3] S Z I J = g_at 144 578 [.ref x, l1, l2, l3] (.ref x :: S) Z I J := gq_aload e_144_577 rfl
set_option maxRecDepth 100000 in
theorem e_144_578 : g_Pg 144 578 = ga_iload 3 579 := (congrFun pg_144 578).trans rfl
theorem q_144_578 {l0 l1 l2 : Value} {x : Int32} {S : List Value} {Z : gZ} {I : gI} {J : gJ} : g_at 144 578 [l0, l1, l2, .int x] S Z I J = g_at 144 579 [l0, l1, l2, .int x] (.int x :: S) Z I J := gq_iload e_144_578 rfl
set_option maxRecDepth 100000 in
theorem e_144_579 : g_Pg 144 579 = ga_push (.int 3) 580 := (congrFun pg_144 579).trans rfl
theorem q_144_579 {L : List Value} {S : List Value} {Z : gZ} {I : gI} {J : gJ} : g_at 144 579 L S Z I J = g_at 144 580 L (.int 3 :: S) Z I J := gq_push e_144_579
set_option maxRecDepth 100000 in
theorem e_144_580 : g_Pg 144 580 = ga_bin (fun x y => x + y) 581 := (congrFun pg_144 580).trans rfl
theorem q_144_580 {L : List Value} {x y : Int32} {S : List Value} {Z : gZ} {I : gI} {J : gJ} : g_at 144 580 L (.int y :: .int x :: S) Z I J = g_at 144 581 L (.int (x + y) :: S) Z I J := gq_bin e_144_580
set_option maxRecDepth 100000 in
theorem e_144_581 : g_Pg 144 581 = ga_iald 582 := (congrFun pg_144 581).trans rfl
theorem q_144_581 {L : List Value} {a : Nat} {i : Int32} {S : List Value} {Z : gZ} {I : gI} {J : gJ} (h : gTg8 (gKd Z a).1 a = true) (h0 : 0 ≤ i) (h1 : i.toNatClampNeg < (gKd Z a).2) : g_at 144 581 L (.int i :: .ref a :: S) Z I J = g_at 144 582 L (.int (I a i.toNatClampNeg) :: S) Z I J := gq_iald e_144_581 h h0 h1
set_option maxRecDepth 100000 in
theorem e_144_582 : g_Pg 144 582 = ga_callV 6 70 3 585 := (congrFun pg_144 582).trans rfl
theorem q_144_582 {L : List Value} {a0 : Int32} {a1 : Int32} {a2 : Int32} {a3 : Nat} {Z : gZ} {I : gI} {J : gJ} (h : (gKd Z a3).1 = 6) : g_at 144 582 L [.int a0, .int a1, .int a2, .ref a3] Z I J = (g_at 70 0 [.ref a3, .int a2, .int a1, .int a0] [] Z I J).bind (fun r => g_at 144 585 L (r.1.toList ++ []) r.2.1 r.2.2.1 r.2.2.2) := gq_callV e_144_582 rfl rfl h rfl rfl rfl rfl rfl
set_option maxRecDepth 100000 in
theorem e_144_585 : g_Pg 144 585 = ga_aload 2 586 := (congrFun pg_144 585).trans rfl
theorem q_144_585 {l0 l1 l3 : Value} {x : Nat} {S : List Value} {Z : gZ} {I : gI} {J : gJ} : g_at 144 585 [l0, l1, .ref x, l3] S Z I J = g_at 144 586 [l0, l1, .ref x, l3] (.ref x :: S) Z I J := gq_aload e_144_585 rfl
set_option maxRecDepth 100000 in
theorem e_144_586 : g_Pg 144 586 = ga_aload 0 587 := (congrFun pg_144 586).trans rfl
theorem q_144_586 {l1 l2 l3 : Value} {x : Nat} {S : List Value} {Z : gZ} {I : gI} {J : gJ} : g_at 144 586 [.ref x, l1, l2, l3] S Z I J = g_at 144 587 [.ref x, l1, l2, l3] (.ref x :: S) Z I J := gq_aload e_144_586 rfl
set_option maxRecDepth 100000 in
theorem e_144_587 : g_Pg 144 587 = ga_iload 3 588 := (congrFun pg_144 587).trans rfl
theorem q_144_587 {l0 l1 l2 : Value} {x : Int32} {S : List Value} {Z : gZ} {I : gI} {J : gJ} : g_at 144 587 [l0, l1, l2, .int x] S Z I J = g_at 144 588 [l0, l1, l2, .int x] (.int x :: S) Z I J := gq_iload e_144_587 rfl
set_option maxRecDepth 100000 in
theorem e_144_588 : g_Pg 144 588 = ga_push (.int 1) 589 := (congrFun pg_144 588).trans rfl
theorem q_144_588 {L : List Value} {S : List Value} {Z : gZ} {I : gI} {J : gJ} : g_at 144 588 L S Z I J = g_at 144 589 L (.int 1 :: S) Z I J := gq_push e_144_588
set_option maxRecDepth 100000 in
theorem e_144_589 : g_Pg 144 589 = ga_bin (fun x y => x + y) 590 := (congrFun pg_144 589).trans rfl
theorem q_144_589 {L : List Value} {x y : Int32} {S : List Value} {Z : gZ} {I : gI} {J : gJ} : g_at 144 589 L (.int y :: .int x :: S) Z I J = g_at 144 590 L (.int (x + y) :: S) Z I J := gq_bin e_144_589
set_option maxRecDepth 100000 in
theorem e_144_590 : g_Pg 144 590 = ga_iald 591 := (congrFun pg_144 590).trans rfl
theorem q_144_590 {L : List Value} {a : Nat} {i : Int32} {S : List Value} {Z : gZ} {I : gI} {J : gJ} (h : gTg8 (gKd Z a).1 a = true) (h0 : 0 ≤ i) (h1 : i.toNatClampNeg < (gKd Z a).2) : g_at 144 590 L (.int i :: .ref a :: S) Z I J = g_at 144 591 L (.int (I a i.toNatClampNeg) :: S) Z I J := gq_iald e_144_590 h h0 h1
set_option maxRecDepth 100000 in
theorem e_144_591 : g_Pg 144 591 = ga_aload 0 592 := (congrFun pg_144 591).trans rfl
theorem q_144_591 {l1 l2 l3 : Value} {x : Nat} {S : List Value} {Z : gZ} {I : gI} {J : gJ} : g_at 144 591 [.ref x, l1, l2, l3] S Z I J = g_at 144 592 [.ref x, l1, l2, l3] (.ref x :: S) Z I J := gq_aload e_144_591 rfl
set_option maxRecDepth 100000 in
theorem e_144_592 : g_Pg 144 592 = ga_iload 3 593 := (congrFun pg_144 592).trans rfl
theorem q_144_592 {l0 l1 l2 : Value} {x : Int32} {S : List Value} {Z : gZ} {I : gI} {J : gJ} : g_at 144 592 [l0, l1, l2, .int x] S Z I J = g_at 144 593 [l0, l1, l2, .int x] (.int x :: S) Z I J := gq_iload e_144_592 rfl
set_option maxRecDepth 100000 in
theorem e_144_593 : g_Pg 144 593 = ga_push (.int 2) 594 := (congrFun pg_144 593).trans rfl
theorem q_144_593 {L : List Value} {S : List Value} {Z : gZ} {I : gI} {J : gJ} : g_at 144 593 L S Z I J = g_at 144 594 L (.int 2 :: S) Z I J := gq_push e_144_593
set_option maxRecDepth 100000 in
theorem e_144_594 : g_Pg 144 594 = ga_bin (fun x y => x + y) 595 := (congrFun pg_144 594).trans rfl
theorem q_144_594 {L : List Value} {x y : Int32} {S : List Value} {Z : gZ} {I : gI} {J : gJ} : g_at 144 594 L (.int y :: .int x :: S) Z I J = g_at 144 595 L (.int (x + y) :: S) Z I J := gq_bin e_144_594
set_option maxRecDepth 100000 in
theorem e_144_595 : g_Pg 144 595 = ga_iald 596 := (congrFun pg_144 595).trans rfl
theorem q_144_595 {L : List Value} {a : Nat} {i : Int32} {S : List Value} {Z : gZ} {I : gI} {J : gJ} (h : gTg8 (gKd Z a).1 a = true) (h0 : 0 ≤ i) (h1 : i.toNatClampNeg < (gKd Z a).2) : g_at 144 595 L (.int i :: .ref a :: S) Z I J = g_at 144 596 L (.int (I a i.toNatClampNeg) :: S) Z I J := gq_iald e_144_595 h h0 h1
set_option maxRecDepth 100000 in
theorem e_144_596 : g_Pg 144 596 = ga_aload 0 597 := (congrFun pg_144 596).trans rfl
theorem q_144_596 {l1 l2 l3 : Value} {x : Nat} {S : List Value} {Z : gZ} {I : gI} {J : gJ} : g_at 144 596 [.ref x, l1, l2, l3] S Z I J = g_at 144 597 [.ref x, l1, l2, l3] (.ref x :: S) Z I J := gq_aload e_144_596 rfl
set_option maxRecDepth 100000 in
theorem e_144_597 : g_Pg 144 597 = ga_iload 3 598 := (congrFun pg_144 597).trans rfl
theorem q_144_597 {l0 l1 l2 : Value} {x : Int32} {S : List Value} {Z : gZ} {I : gI} {J : gJ} : g_at 144 597 [l0, l1, l2, .int x] S Z I J = g_at 144 598 [l0, l1, l2, .int x] (.int x :: S) Z I J := gq_iload e_144_597 rfl
set_option maxRecDepth 100000 in
theorem e_144_598 : g_Pg 144 598 = ga_push (.int 3) 599 := (congrFun pg_144 598).trans rfl
theorem q_144_598 {L : List Value} {S : List Value} {Z : gZ} {I : gI} {J : gJ} : g_at 144 598 L S Z I J = g_at 144 599 L (.int 3 :: S) Z I J := gq_push e_144_598
set_option maxRecDepth 100000 in
theorem e_144_599 : g_Pg 144 599 = ga_bin (fun x y => x + y) 600 := (congrFun pg_144 599).trans rfl
theorem q_144_599 {L : List Value} {x y : Int32} {S : List Value} {Z : gZ} {I : gI} {J : gJ} : g_at 144 599 L (.int y :: .int x :: S) Z I J = g_at 144 600 L (.int (x + y) :: S) Z I J := gq_bin e_144_599
set_option maxRecDepth 100000 in
theorem e_144_600 : g_Pg 144 600 = ga_iald 601 := (congrFun pg_144 600).trans rfl
theorem q_144_600 {L : List Value} {a : Nat} {i : Int32} {S : List Value} {Z : gZ} {I : gI} {J : gJ} (h : gTg8 (gKd Z a).1 a = true) (h0 : 0 ≤ i) (h1 : i.toNatClampNeg < (gKd Z a).2) : g_at 144 600 L (.int i :: .ref a :: S) Z I J = g_at 144 601 L (.int (I a i.toNatClampNeg) :: S) Z I J := gq_iald e_144_600 h h0 h1
set_option maxRecDepth 100000 in
theorem e_144_601 : g_Pg 144 601 = ga_callV 7 119 3 604 := (congrFun pg_144 601).trans rfl
theorem q_144_601 {L : List Value} {a0 : Int32} {a1 : Int32} {a2 : Int32} {a3 : Nat} {r4 : Int32} {Z : gZ} {I : gI} {J : gJ} (h : (gKd Z a3).1 = 7) : g_at 144 601 L [.int a0, .int a1, .int a2, .ref a3, .int r4] Z I J = (g_at 119 0 [.ref a3, .int a2, .int a1, .int a0, .null, .null, .null, .null, .null, .null] [] Z I J).bind (fun r => g_at 144 604 L (r.1.toList ++ [.int r4]) r.2.1 r.2.2.1 r.2.2.2) := gq_callV e_144_601 rfl rfl h rfl rfl rfl rfl rfl
set_option maxRecDepth 100000 in
theorem e_144_604 : g_Pg 144 604 = ga_cmp (fun x y => decide (x = y)) 893 607 := (congrFun pg_144 604).trans rfl
theorem q_144_604 {L : List Value} {x y : Int32} {S : List Value} {Z : gZ} {I : gI} {J : gJ} : g_at 144 604 L (.int y :: .int x :: S) Z I J = if x = y then g_at 144 893 L S Z I J else g_at 144 607 L S Z I J := gq_cmp e_144_604 rfl
set_option maxRecDepth 100000 in
theorem e_144_607 : g_Pg 144 607 = ga_push (.int 0) 608 := (congrFun pg_144 607).trans rfl
theorem q_144_607 {L : List Value} {S : List Value} {Z : gZ} {I : gI} {J : gJ} : g_at 144 607 L S Z I J = g_at 144 608 L (.int 0 :: S) Z I J := gq_push e_144_607
set_option maxRecDepth 100000 in
theorem e_144_608 : g_Pg 144 608 = ga_zret := (congrFun pg_144 608).trans rfl
theorem q_144_608 {L : List Value} {x : Int32} {Z : gZ} {I : gI} {J : gJ} (h : gB01 x = true) : g_at 144 608 L [.int x] Z I J = some (some (.int x), Z, I, J) := gq_zret e_144_608 h
set_option maxRecDepth 100000 in
theorem e_144_609 : g_Pg 144 609 = ga_aload 1 610 := (congrFun pg_144 609).trans rfl
theorem q_144_609 {l0 l2 l3 : Value} {x : Nat} {S : List Value} {Z : gZ} {I : gI} {J : gJ} : g_at 144 609 [l0, .ref x, l2, l3] S Z I J = g_at 144 610 [l0, .ref x, l2, l3] (.ref x :: S) Z I J := gq_aload e_144_609 rfl
set_option maxRecDepth 100000 in
theorem e_144_610 : g_Pg 144 610 = ga_aload 0 611 := (congrFun pg_144 610).trans rfl
theorem q_144_610 {l1 l2 l3 : Value} {x : Nat} {S : List Value} {Z : gZ} {I : gI} {J : gJ} : g_at 144 610 [.ref x, l1, l2, l3] S Z I J = g_at 144 611 [.ref x, l1, l2, l3] (.ref x :: S) Z I J := gq_aload e_144_610 rfl
set_option maxRecDepth 100000 in
theorem e_144_611 : g_Pg 144 611 = ga_iload 3 612 := (congrFun pg_144 611).trans rfl
theorem q_144_611 {l0 l1 l2 : Value} {x : Int32} {S : List Value} {Z : gZ} {I : gI} {J : gJ} : g_at 144 611 [l0, l1, l2, .int x] S Z I J = g_at 144 612 [l0, l1, l2, .int x] (.int x :: S) Z I J := gq_iload e_144_611 rfl
set_option maxRecDepth 100000 in
theorem e_144_612 : g_Pg 144 612 = ga_push (.int 1) 613 := (congrFun pg_144 612).trans rfl
theorem q_144_612 {L : List Value} {S : List Value} {Z : gZ} {I : gI} {J : gJ} : g_at 144 612 L S Z I J = g_at 144 613 L (.int 1 :: S) Z I J := gq_push e_144_612
set_option maxRecDepth 100000 in
theorem e_144_613 : g_Pg 144 613 = ga_bin (fun x y => x + y) 614 := (congrFun pg_144 613).trans rfl
theorem q_144_613 {L : List Value} {x y : Int32} {S : List Value} {Z : gZ} {I : gI} {J : gJ} : g_at 144 613 L (.int y :: .int x :: S) Z I J = g_at 144 614 L (.int (x + y) :: S) Z I J := gq_bin e_144_613
set_option maxRecDepth 100000 in
theorem e_144_614 : g_Pg 144 614 = ga_iald 615 := (congrFun pg_144 614).trans rfl
theorem q_144_614 {L : List Value} {a : Nat} {i : Int32} {S : List Value} {Z : gZ} {I : gI} {J : gJ} (h : gTg8 (gKd Z a).1 a = true) (h0 : 0 ≤ i) (h1 : i.toNatClampNeg < (gKd Z a).2) : g_at 144 614 L (.int i :: .ref a :: S) Z I J = g_at 144 615 L (.int (I a i.toNatClampNeg) :: S) Z I J := gq_iald e_144_614 h h0 h1
set_option maxRecDepth 100000 in
theorem e_144_615 : g_Pg 144 615 = ga_aload 0 616 := (congrFun pg_144 615).trans rfl
theorem q_144_615 {l1 l2 l3 : Value} {x : Nat} {S : List Value} {Z : gZ} {I : gI} {J : gJ} : g_at 144 615 [.ref x, l1, l2, l3] S Z I J = g_at 144 616 [.ref x, l1, l2, l3] (.ref x :: S) Z I J := gq_aload e_144_615 rfl
set_option maxRecDepth 100000 in
theorem e_144_616 : g_Pg 144 616 = ga_iload 3 617 := (congrFun pg_144 616).trans rfl
theorem q_144_616 {l0 l1 l2 : Value} {x : Int32} {S : List Value} {Z : gZ} {I : gI} {J : gJ} : g_at 144 616 [l0, l1, l2, .int x] S Z I J = g_at 144 617 [l0, l1, l2, .int x] (.int x :: S) Z I J := gq_iload e_144_616 rfl
set_option maxRecDepth 100000 in
theorem e_144_617 : g_Pg 144 617 = ga_push (.int 2) 618 := (congrFun pg_144 617).trans rfl
theorem q_144_617 {L : List Value} {S : List Value} {Z : gZ} {I : gI} {J : gJ} : g_at 144 617 L S Z I J = g_at 144 618 L (.int 2 :: S) Z I J := gq_push e_144_617
set_option maxRecDepth 100000 in
theorem e_144_618 : g_Pg 144 618 = ga_bin (fun x y => x + y) 619 := (congrFun pg_144 618).trans rfl
theorem q_144_618 {L : List Value} {x y : Int32} {S : List Value} {Z : gZ} {I : gI} {J : gJ} : g_at 144 618 L (.int y :: .int x :: S) Z I J = g_at 144 619 L (.int (x + y) :: S) Z I J := gq_bin e_144_618
set_option maxRecDepth 100000 in
theorem e_144_619 : g_Pg 144 619 = ga_iald 620 := (congrFun pg_144 619).trans rfl
theorem q_144_619 {L : List Value} {a : Nat} {i : Int32} {S : List Value} {Z : gZ} {I : gI} {J : gJ} (h : gTg8 (gKd Z a).1 a = true) (h0 : 0 ≤ i) (h1 : i.toNatClampNeg < (gKd Z a).2) : g_at 144 619 L (.int i :: .ref a :: S) Z I J = g_at 144 620 L (.int (I a i.toNatClampNeg) :: S) Z I J := gq_iald e_144_619 h h0 h1
set_option maxRecDepth 100000 in
theorem e_144_620 : g_Pg 144 620 = ga_aload 0 621 := (congrFun pg_144 620).trans rfl
theorem q_144_620 {l1 l2 l3 : Value} {x : Nat} {S : List Value} {Z : gZ} {I : gI} {J : gJ} : g_at 144 620 [.ref x, l1, l2, l3] S Z I J = g_at 144 621 [.ref x, l1, l2, l3] (.ref x :: S) Z I J := gq_aload e_144_620 rfl
set_option maxRecDepth 100000 in
theorem e_144_621 : g_Pg 144 621 = ga_iload 3 622 := (congrFun pg_144 621).trans rfl
theorem q_144_621 {l0 l1 l2 : Value} {x : Int32} {S : List Value} {Z : gZ} {I : gI} {J : gJ} : g_at 144 621 [l0, l1, l2, .int x] S Z I J = g_at 144 622 [l0, l1, l2, .int x] (.int x :: S) Z I J := gq_iload e_144_621 rfl
set_option maxRecDepth 100000 in
theorem e_144_622 : g_Pg 144 622 = ga_push (.int 3) 623 := (congrFun pg_144 622).trans rfl
theorem q_144_622 {L : List Value} {S : List Value} {Z : gZ} {I : gI} {J : gJ} : g_at 144 622 L S Z I J = g_at 144 623 L (.int 3 :: S) Z I J := gq_push e_144_622
set_option maxRecDepth 100000 in
theorem e_144_623 : g_Pg 144 623 = ga_bin (fun x y => x + y) 624 := (congrFun pg_144 623).trans rfl
theorem q_144_623 {L : List Value} {x y : Int32} {S : List Value} {Z : gZ} {I : gI} {J : gJ} : g_at 144 623 L (.int y :: .int x :: S) Z I J = g_at 144 624 L (.int (x + y) :: S) Z I J := gq_bin e_144_623
set_option maxRecDepth 100000 in
theorem e_144_624 : g_Pg 144 624 = ga_iald 625 := (congrFun pg_144 624).trans rfl
theorem q_144_624 {L : List Value} {a : Nat} {i : Int32} {S : List Value} {Z : gZ} {I : gI} {J : gJ} (h : gTg8 (gKd Z a).1 a = true) (h0 : 0 ≤ i) (h1 : i.toNatClampNeg < (gKd Z a).2) : g_at 144 624 L (.int i :: .ref a :: S) Z I J = g_at 144 625 L (.int (I a i.toNatClampNeg) :: S) Z I J := gq_iald e_144_624 h h0 h1
set_option maxRecDepth 100000 in
theorem e_144_625 : g_Pg 144 625 = ga_callV 6 71 3 628 := (congrFun pg_144 625).trans rfl
theorem q_144_625 {L : List Value} {a0 : Int32} {a1 : Int32} {a2 : Int32} {a3 : Nat} {Z : gZ} {I : gI} {J : gJ} (h : (gKd Z a3).1 = 6) : g_at 144 625 L [.int a0, .int a1, .int a2, .ref a3] Z I J = (g_at 71 0 [.ref a3, .int a2, .int a1, .int a0] [] Z I J).bind (fun r => g_at 144 628 L (r.1.toList ++ []) r.2.1 r.2.2.1 r.2.2.2) := gq_callV e_144_625 rfl rfl h rfl rfl rfl rfl rfl
set_option maxRecDepth 100000 in
theorem e_144_628 : g_Pg 144 628 = ga_aload 2 629 := (congrFun pg_144 628).trans rfl
theorem q_144_628 {l0 l1 l3 : Value} {x : Nat} {S : List Value} {Z : gZ} {I : gI} {J : gJ} : g_at 144 628 [l0, l1, .ref x, l3] S Z I J = g_at 144 629 [l0, l1, .ref x, l3] (.ref x :: S) Z I J := gq_aload e_144_628 rfl
set_option maxRecDepth 100000 in
theorem e_144_629 : g_Pg 144 629 = ga_aload 0 630 := (congrFun pg_144 629).trans rfl
theorem q_144_629 {l1 l2 l3 : Value} {x : Nat} {S : List Value} {Z : gZ} {I : gI} {J : gJ} : g_at 144 629 [.ref x, l1, l2, l3] S Z I J = g_at 144 630 [.ref x, l1, l2, l3] (.ref x :: S) Z I J := gq_aload e_144_629 rfl
set_option maxRecDepth 100000 in
theorem e_144_630 : g_Pg 144 630 = ga_iload 3 631 := (congrFun pg_144 630).trans rfl
theorem q_144_630 {l0 l1 l2 : Value} {x : Int32} {S : List Value} {Z : gZ} {I : gI} {J : gJ} : g_at 144 630 [l0, l1, l2, .int x] S Z I J = g_at 144 631 [l0, l1, l2, .int x] (.int x :: S) Z I J := gq_iload e_144_630 rfl
set_option maxRecDepth 100000 in
theorem e_144_631 : g_Pg 144 631 = ga_push (.int 1) 632 := (congrFun pg_144 631).trans rfl
theorem q_144_631 {L : List Value} {S : List Value} {Z : gZ} {I : gI} {J : gJ} : g_at 144 631 L S Z I J = g_at 144 632 L (.int 1 :: S) Z I J := gq_push e_144_631
set_option maxRecDepth 100000 in
theorem e_144_632 : g_Pg 144 632 = ga_bin (fun x y => x + y) 633 := (congrFun pg_144 632).trans rfl
theorem q_144_632 {L : List Value} {x y : Int32} {S : List Value} {Z : gZ} {I : gI} {J : gJ} : g_at 144 632 L (.int y :: .int x :: S) Z I J = g_at 144 633 L (.int (x + y) :: S) Z I J := gq_bin e_144_632
set_option maxRecDepth 100000 in
theorem e_144_633 : g_Pg 144 633 = ga_iald 634 := (congrFun pg_144 633).trans rfl
theorem q_144_633 {L : List Value} {a : Nat} {i : Int32} {S : List Value} {Z : gZ} {I : gI} {J : gJ} (h : gTg8 (gKd Z a).1 a = true) (h0 : 0 ≤ i) (h1 : i.toNatClampNeg < (gKd Z a).2) : g_at 144 633 L (.int i :: .ref a :: S) Z I J = g_at 144 634 L (.int (I a i.toNatClampNeg) :: S) Z I J := gq_iald e_144_633 h h0 h1
set_option maxRecDepth 100000 in
theorem e_144_634 : g_Pg 144 634 = ga_aload 0 635 := (congrFun pg_144 634).trans rfl
theorem q_144_634 {l1 l2 l3 : Value} {x : Nat} {S : List Value} {Z : gZ} {I : gI} {J : gJ} : g_at 144 634 [.ref x, l1, l2, l3] S Z I J = g_at 144 635 [.ref x, l1, l2, l3] (.ref x :: S) Z I J := gq_aload e_144_634 rfl
set_option maxRecDepth 100000 in
theorem e_144_635 : g_Pg 144 635 = ga_iload 3 636 := (congrFun pg_144 635).trans rfl
theorem q_144_635 {l0 l1 l2 : Value} {x : Int32} {S : List Value} {Z : gZ} {I : gI} {J : gJ} : g_at 144 635 [l0, l1, l2, .int x] S Z I J = g_at 144 636 [l0, l1, l2, .int x] (.int x :: S) Z I J := gq_iload e_144_635 rfl
set_option maxRecDepth 100000 in
theorem e_144_636 : g_Pg 144 636 = ga_push (.int 2) 637 := (congrFun pg_144 636).trans rfl
theorem q_144_636 {L : List Value} {S : List Value} {Z : gZ} {I : gI} {J : gJ} : g_at 144 636 L S Z I J = g_at 144 637 L (.int 2 :: S) Z I J := gq_push e_144_636
set_option maxRecDepth 100000 in
theorem e_144_637 : g_Pg 144 637 = ga_bin (fun x y => x + y) 638 := (congrFun pg_144 637).trans rfl
theorem q_144_637 {L : List Value} {x y : Int32} {S : List Value} {Z : gZ} {I : gI} {J : gJ} : g_at 144 637 L (.int y :: .int x :: S) Z I J = g_at 144 638 L (.int (x + y) :: S) Z I J := gq_bin e_144_637
set_option maxRecDepth 100000 in
theorem e_144_638 : g_Pg 144 638 = ga_iald 639 := (congrFun pg_144 638).trans rfl
theorem q_144_638 {L : List Value} {a : Nat} {i : Int32} {S : List Value} {Z : gZ} {I : gI} {J : gJ} (h : gTg8 (gKd Z a).1 a = true) (h0 : 0 ≤ i) (h1 : i.toNatClampNeg < (gKd Z a).2) : g_at 144 638 L (.int i :: .ref a :: S) Z I J = g_at 144 639 L (.int (I a i.toNatClampNeg) :: S) Z I J := gq_iald e_144_638 h h0 h1
set_option maxRecDepth 100000 in
theorem e_144_639 : g_Pg 144 639 = ga_aload 0 640 := (congrFun pg_144 639).trans rfl
theorem q_144_639 {l1 l2 l3 : Value} {x : Nat} {S : List Value} {Z : gZ} {I : gI} {J : gJ} : g_at 144 639 [.ref x, l1, l2, l3] S Z I J = g_at 144 640 [.ref x, l1, l2, l3] (.ref x :: S) Z I J := gq_aload e_144_639 rfl
set_option maxRecDepth 100000 in
theorem e_144_640 : g_Pg 144 640 = ga_iload 3 641 := (congrFun pg_144 640).trans rfl
theorem q_144_640 {l0 l1 l2 : Value} {x : Int32} {S : List Value} {Z : gZ} {I : gI} {J : gJ} : g_at 144 640 [l0, l1, l2, .int x] S Z I J = g_at 144 641 [l0, l1, l2, .int x] (.int x :: S) Z I J := gq_iload e_144_640 rfl
set_option maxRecDepth 100000 in
theorem e_144_641 : g_Pg 144 641 = ga_push (.int 3) 642 := (congrFun pg_144 641).trans rfl
theorem q_144_641 {L : List Value} {S : List Value} {Z : gZ} {I : gI} {J : gJ} : g_at 144 641 L S Z I J = g_at 144 642 L (.int 3 :: S) Z I J := gq_push e_144_641
set_option maxRecDepth 100000 in
theorem e_144_642 : g_Pg 144 642 = ga_bin (fun x y => x + y) 643 := (congrFun pg_144 642).trans rfl
theorem q_144_642 {L : List Value} {x y : Int32} {S : List Value} {Z : gZ} {I : gI} {J : gJ} : g_at 144 642 L (.int y :: .int x :: S) Z I J = g_at 144 643 L (.int (x + y) :: S) Z I J := gq_bin e_144_642
set_option maxRecDepth 100000 in
theorem e_144_643 : g_Pg 144 643 = ga_iald 644 := (congrFun pg_144 643).trans rfl
theorem q_144_643 {L : List Value} {a : Nat} {i : Int32} {S : List Value} {Z : gZ} {I : gI} {J : gJ} (h : gTg8 (gKd Z a).1 a = true) (h0 : 0 ≤ i) (h1 : i.toNatClampNeg < (gKd Z a).2) : g_at 144 643 L (.int i :: .ref a :: S) Z I J = g_at 144 644 L (.int (I a i.toNatClampNeg) :: S) Z I J := gq_iald e_144_643 h h0 h1
set_option maxRecDepth 100000 in
theorem e_144_644 : g_Pg 144 644 = ga_callV 7 121 3 647 := (congrFun pg_144 644).trans rfl
theorem q_144_644 {L : List Value} {a0 : Int32} {a1 : Int32} {a2 : Int32} {a3 : Nat} {r4 : Int32} {Z : gZ} {I : gI} {J : gJ} (h : (gKd Z a3).1 = 7) : g_at 144 644 L [.int a0, .int a1, .int a2, .ref a3, .int r4] Z I J = (g_at 121 0 [.ref a3, .int a2, .int a1, .int a0] [] Z I J).bind (fun r => g_at 144 647 L (r.1.toList ++ [.int r4]) r.2.1 r.2.2.1 r.2.2.2) := gq_callV e_144_644 rfl rfl h rfl rfl rfl rfl rfl
set_option maxRecDepth 100000 in
theorem e_144_647 : g_Pg 144 647 = ga_cmp (fun x y => decide (x = y)) 893 650 := (congrFun pg_144 647).trans rfl
theorem q_144_647 {L : List Value} {x y : Int32} {S : List Value} {Z : gZ} {I : gI} {J : gJ} : g_at 144 647 L (.int y :: .int x :: S) Z I J = if x = y then g_at 144 893 L S Z I J else g_at 144 650 L S Z I J := gq_cmp e_144_647 rfl
set_option maxRecDepth 100000 in
theorem e_144_650 : g_Pg 144 650 = ga_push (.int 0) 651 := (congrFun pg_144 650).trans rfl
theorem q_144_650 {L : List Value} {S : List Value} {Z : gZ} {I : gI} {J : gJ} : g_at 144 650 L S Z I J = g_at 144 651 L (.int 0 :: S) Z I J := gq_push e_144_650
set_option maxRecDepth 100000 in
theorem e_144_651 : g_Pg 144 651 = ga_zret := (congrFun pg_144 651).trans rfl
theorem q_144_651 {L : List Value} {x : Int32} {Z : gZ} {I : gI} {J : gJ} (h : gB01 x = true) : g_at 144 651 L [.int x] Z I J = some (some (.int x), Z, I, J) := gq_zret e_144_651 h
set_option maxRecDepth 100000 in
theorem e_144_652 : g_Pg 144 652 = ga_aload 1 653 := (congrFun pg_144 652).trans rfl
theorem q_144_652 {l0 l2 l3 : Value} {x : Nat} {S : List Value} {Z : gZ} {I : gI} {J : gJ} : g_at 144 652 [l0, .ref x, l2, l3] S Z I J = g_at 144 653 [l0, .ref x, l2, l3] (.ref x :: S) Z I J := gq_aload e_144_652 rfl
set_option maxRecDepth 100000 in
theorem e_144_653 : g_Pg 144 653 = ga_aload 0 654 := (congrFun pg_144 653).trans rfl
theorem q_144_653 {l1 l2 l3 : Value} {x : Nat} {S : List Value} {Z : gZ} {I : gI} {J : gJ} : g_at 144 653 [.ref x, l1, l2, l3] S Z I J = g_at 144 654 [.ref x, l1, l2, l3] (.ref x :: S) Z I J := gq_aload e_144_653 rfl
set_option maxRecDepth 100000 in
theorem e_144_654 : g_Pg 144 654 = ga_iload 3 655 := (congrFun pg_144 654).trans rfl
theorem q_144_654 {l0 l1 l2 : Value} {x : Int32} {S : List Value} {Z : gZ} {I : gI} {J : gJ} : g_at 144 654 [l0, l1, l2, .int x] S Z I J = g_at 144 655 [l0, l1, l2, .int x] (.int x :: S) Z I J := gq_iload e_144_654 rfl
set_option maxRecDepth 100000 in
theorem e_144_655 : g_Pg 144 655 = ga_push (.int 1) 656 := (congrFun pg_144 655).trans rfl
theorem q_144_655 {L : List Value} {S : List Value} {Z : gZ} {I : gI} {J : gJ} : g_at 144 655 L S Z I J = g_at 144 656 L (.int 1 :: S) Z I J := gq_push e_144_655
set_option maxRecDepth 100000 in
theorem e_144_656 : g_Pg 144 656 = ga_bin (fun x y => x + y) 657 := (congrFun pg_144 656).trans rfl
theorem q_144_656 {L : List Value} {x y : Int32} {S : List Value} {Z : gZ} {I : gI} {J : gJ} : g_at 144 656 L (.int y :: .int x :: S) Z I J = g_at 144 657 L (.int (x + y) :: S) Z I J := gq_bin e_144_656
set_option maxRecDepth 100000 in
theorem e_144_657 : g_Pg 144 657 = ga_iald 658 := (congrFun pg_144 657).trans rfl
theorem q_144_657 {L : List Value} {a : Nat} {i : Int32} {S : List Value} {Z : gZ} {I : gI} {J : gJ} (h : gTg8 (gKd Z a).1 a = true) (h0 : 0 ≤ i) (h1 : i.toNatClampNeg < (gKd Z a).2) : g_at 144 657 L (.int i :: .ref a :: S) Z I J = g_at 144 658 L (.int (I a i.toNatClampNeg) :: S) Z I J := gq_iald e_144_657 h h0 h1
set_option maxRecDepth 100000 in
theorem e_144_658 : g_Pg 144 658 = ga_aload 0 659 := (congrFun pg_144 658).trans rfl
theorem q_144_658 {l1 l2 l3 : Value} {x : Nat} {S : List Value} {Z : gZ} {I : gI} {J : gJ} : g_at 144 658 [.ref x, l1, l2, l3] S Z I J = g_at 144 659 [.ref x, l1, l2, l3] (.ref x :: S) Z I J := gq_aload e_144_658 rfl
set_option maxRecDepth 100000 in
theorem e_144_659 : g_Pg 144 659 = ga_iload 3 660 := (congrFun pg_144 659).trans rfl
theorem q_144_659 {l0 l1 l2 : Value} {x : Int32} {S : List Value} {Z : gZ} {I : gI} {J : gJ} : g_at 144 659 [l0, l1, l2, .int x] S Z I J = g_at 144 660 [l0, l1, l2, .int x] (.int x :: S) Z I J := gq_iload e_144_659 rfl
set_option maxRecDepth 100000 in
theorem e_144_660 : g_Pg 144 660 = ga_push (.int 2) 661 := (congrFun pg_144 660).trans rfl
theorem q_144_660 {L : List Value} {S : List Value} {Z : gZ} {I : gI} {J : gJ} : g_at 144 660 L S Z I J = g_at 144 661 L (.int 2 :: S) Z I J := gq_push e_144_660
set_option maxRecDepth 100000 in
theorem e_144_661 : g_Pg 144 661 = ga_bin (fun x y => x + y) 662 := (congrFun pg_144 661).trans rfl
theorem q_144_661 {L : List Value} {x y : Int32} {S : List Value} {Z : gZ} {I : gI} {J : gJ} : g_at 144 661 L (.int y :: .int x :: S) Z I J = g_at 144 662 L (.int (x + y) :: S) Z I J := gq_bin e_144_661
set_option maxRecDepth 100000 in
theorem e_144_662 : g_Pg 144 662 = ga_iald 663 := (congrFun pg_144 662).trans rfl
theorem q_144_662 {L : List Value} {a : Nat} {i : Int32} {S : List Value} {Z : gZ} {I : gI} {J : gJ} (h : gTg8 (gKd Z a).1 a = true) (h0 : 0 ≤ i) (h1 : i.toNatClampNeg < (gKd Z a).2) : g_at 144 662 L (.int i :: .ref a :: S) Z I J = g_at 144 663 L (.int (I a i.toNatClampNeg) :: S) Z I J := gq_iald e_144_662 h h0 h1
set_option maxRecDepth 100000 in
theorem e_144_663 : g_Pg 144 663 = ga_aload 0 664 := (congrFun pg_144 663).trans rfl
theorem q_144_663 {l1 l2 l3 : Value} {x : Nat} {S : List Value} {Z : gZ} {I : gI} {J : gJ} : g_at 144 663 [.ref x, l1, l2, l3] S Z I J = g_at 144 664 [.ref x, l1, l2, l3] (.ref x :: S) Z I J := gq_aload e_144_663 rfl
set_option maxRecDepth 100000 in
theorem e_144_664 : g_Pg 144 664 = ga_iload 3 665 := (congrFun pg_144 664).trans rfl
theorem q_144_664 {l0 l1 l2 : Value} {x : Int32} {S : List Value} {Z : gZ} {I : gI} {J : gJ} : g_at 144 664 [l0, l1, l2, .int x] S Z I J = g_at 144 665 [l0, l1, l2, .int x] (.int x :: S) Z I J := gq_iload e_144_664 rfl
set_option maxRecDepth 100000 in
theorem e_144_665 : g_Pg 144 665 = ga_push (.int 3) 666 := (congrFun pg_144 665).trans rfl
theorem q_144_665 {L : List Value} {S : List Value} {Z : gZ} {I : gI} {J : gJ} : g_at 144 665 L S Z I J = g_at 144 666 L (.int 3 :: S) Z I J := gq_push e_144_665
set_option maxRecDepth 100000 in
theorem e_144_666 : g_Pg 144 666 = ga_bin (fun x y => x + y) 667 := (congrFun pg_144 666).trans rfl
theorem q_144_666 {L : List Value} {x y : Int32} {S : List Value} {Z : gZ} {I : gI} {J : gJ} : g_at 144 666 L (.int y :: .int x :: S) Z I J = g_at 144 667 L (.int (x + y) :: S) Z I J := gq_bin e_144_666
set_option maxRecDepth 100000 in
theorem e_144_667 : g_Pg 144 667 = ga_iald 668 := (congrFun pg_144 667).trans rfl
theorem q_144_667 {L : List Value} {a : Nat} {i : Int32} {S : List Value} {Z : gZ} {I : gI} {J : gJ} (h : gTg8 (gKd Z a).1 a = true) (h0 : 0 ≤ i) (h1 : i.toNatClampNeg < (gKd Z a).2) : g_at 144 667 L (.int i :: .ref a :: S) Z I J = g_at 144 668 L (.int (I a i.toNatClampNeg) :: S) Z I J := gq_iald e_144_667 h h0 h1
set_option maxRecDepth 100000 in
theorem e_144_668 : g_Pg 144 668 = ga_aload 0 669 := (congrFun pg_144 668).trans rfl
theorem q_144_668 {l1 l2 l3 : Value} {x : Nat} {S : List Value} {Z : gZ} {I : gI} {J : gJ} : g_at 144 668 [.ref x, l1, l2, l3] S Z I J = g_at 144 669 [.ref x, l1, l2, l3] (.ref x :: S) Z I J := gq_aload e_144_668 rfl
set_option maxRecDepth 100000 in
theorem e_144_669 : g_Pg 144 669 = ga_iload 3 670 := (congrFun pg_144 669).trans rfl
theorem q_144_669 {l0 l1 l2 : Value} {x : Int32} {S : List Value} {Z : gZ} {I : gI} {J : gJ} : g_at 144 669 [l0, l1, l2, .int x] S Z I J = g_at 144 670 [l0, l1, l2, .int x] (.int x :: S) Z I J := gq_iload e_144_669 rfl
set_option maxRecDepth 100000 in
theorem e_144_670 : g_Pg 144 670 = ga_push (.int 4) 671 := (congrFun pg_144 670).trans rfl
theorem q_144_670 {L : List Value} {S : List Value} {Z : gZ} {I : gI} {J : gJ} : g_at 144 670 L S Z I J = g_at 144 671 L (.int 4 :: S) Z I J := gq_push e_144_670
set_option maxRecDepth 100000 in
theorem e_144_671 : g_Pg 144 671 = ga_bin (fun x y => x + y) 672 := (congrFun pg_144 671).trans rfl
theorem q_144_671 {L : List Value} {x y : Int32} {S : List Value} {Z : gZ} {I : gI} {J : gJ} : g_at 144 671 L (.int y :: .int x :: S) Z I J = g_at 144 672 L (.int (x + y) :: S) Z I J := gq_bin e_144_671
set_option maxRecDepth 100000 in
theorem e_144_672 : g_Pg 144 672 = ga_iald 673 := (congrFun pg_144 672).trans rfl
theorem q_144_672 {L : List Value} {a : Nat} {i : Int32} {S : List Value} {Z : gZ} {I : gI} {J : gJ} (h : gTg8 (gKd Z a).1 a = true) (h0 : 0 ≤ i) (h1 : i.toNatClampNeg < (gKd Z a).2) : g_at 144 672 L (.int i :: .ref a :: S) Z I J = g_at 144 673 L (.int (I a i.toNatClampNeg) :: S) Z I J := gq_iald e_144_672 h h0 h1
set_option maxRecDepth 100000 in
theorem e_144_673 : g_Pg 144 673 = ga_callV 6 72 4 676 := (congrFun pg_144 673).trans rfl
theorem q_144_673 {L : List Value} {a0 : Int32} {a1 : Int32} {a2 : Int32} {a3 : Int32} {a4 : Nat} {Z : gZ} {I : gI} {J : gJ} (h : (gKd Z a4).1 = 6) : g_at 144 673 L [.int a0, .int a1, .int a2, .int a3, .ref a4] Z I J = (g_at 72 0 [.ref a4, .int a3, .int a2, .int a1, .int a0, .null] [] Z I J).bind (fun r => g_at 144 676 L (r.1.toList ++ []) r.2.1 r.2.2.1 r.2.2.2) := gq_callV e_144_673 rfl rfl h rfl rfl rfl rfl rfl
set_option maxRecDepth 100000 in
theorem e_144_676 : g_Pg 144 676 = ga_aload 2 677 := (congrFun pg_144 676).trans rfl
theorem q_144_676 {l0 l1 l3 : Value} {x : Nat} {S : List Value} {Z : gZ} {I : gI} {J : gJ} : g_at 144 676 [l0, l1, .ref x, l3] S Z I J = g_at 144 677 [l0, l1, .ref x, l3] (.ref x :: S) Z I J := gq_aload e_144_676 rfl
set_option maxRecDepth 100000 in
theorem e_144_677 : g_Pg 144 677 = ga_aload 0 678 := (congrFun pg_144 677).trans rfl
theorem q_144_677 {l1 l2 l3 : Value} {x : Nat} {S : List Value} {Z : gZ} {I : gI} {J : gJ} : g_at 144 677 [.ref x, l1, l2, l3] S Z I J = g_at 144 678 [.ref x, l1, l2, l3] (.ref x :: S) Z I J := gq_aload e_144_677 rfl
set_option maxRecDepth 100000 in
theorem e_144_678 : g_Pg 144 678 = ga_iload 3 679 := (congrFun pg_144 678).trans rfl
theorem q_144_678 {l0 l1 l2 : Value} {x : Int32} {S : List Value} {Z : gZ} {I : gI} {J : gJ} : g_at 144 678 [l0, l1, l2, .int x] S Z I J = g_at 144 679 [l0, l1, l2, .int x] (.int x :: S) Z I J := gq_iload e_144_678 rfl
set_option maxRecDepth 100000 in
theorem e_144_679 : g_Pg 144 679 = ga_push (.int 1) 680 := (congrFun pg_144 679).trans rfl
theorem q_144_679 {L : List Value} {S : List Value} {Z : gZ} {I : gI} {J : gJ} : g_at 144 679 L S Z I J = g_at 144 680 L (.int 1 :: S) Z I J := gq_push e_144_679
set_option maxRecDepth 100000 in
theorem e_144_680 : g_Pg 144 680 = ga_bin (fun x y => x + y) 681 := (congrFun pg_144 680).trans rfl
theorem q_144_680 {L : List Value} {x y : Int32} {S : List Value} {Z : gZ} {I : gI} {J : gJ} : g_at 144 680 L (.int y :: .int x :: S) Z I J = g_at 144 681 L (.int (x + y) :: S) Z I J := gq_bin e_144_680
set_option maxRecDepth 100000 in
theorem e_144_681 : g_Pg 144 681 = ga_iald 682 := (congrFun pg_144 681).trans rfl
theorem q_144_681 {L : List Value} {a : Nat} {i : Int32} {S : List Value} {Z : gZ} {I : gI} {J : gJ} (h : gTg8 (gKd Z a).1 a = true) (h0 : 0 ≤ i) (h1 : i.toNatClampNeg < (gKd Z a).2) : g_at 144 681 L (.int i :: .ref a :: S) Z I J = g_at 144 682 L (.int (I a i.toNatClampNeg) :: S) Z I J := gq_iald e_144_681 h h0 h1
set_option maxRecDepth 100000 in
theorem e_144_682 : g_Pg 144 682 = ga_aload 0 683 := (congrFun pg_144 682).trans rfl
theorem q_144_682 {l1 l2 l3 : Value} {x : Nat} {S : List Value} {Z : gZ} {I : gI} {J : gJ} : g_at 144 682 [.ref x, l1, l2, l3] S Z I J = g_at 144 683 [.ref x, l1, l2, l3] (.ref x :: S) Z I J := gq_aload e_144_682 rfl
set_option maxRecDepth 100000 in
theorem e_144_683 : g_Pg 144 683 = ga_iload 3 684 := (congrFun pg_144 683).trans rfl
theorem q_144_683 {l0 l1 l2 : Value} {x : Int32} {S : List Value} {Z : gZ} {I : gI} {J : gJ} : g_at 144 683 [l0, l1, l2, .int x] S Z I J = g_at 144 684 [l0, l1, l2, .int x] (.int x :: S) Z I J := gq_iload e_144_683 rfl
set_option maxRecDepth 100000 in
theorem e_144_684 : g_Pg 144 684 = ga_push (.int 2) 685 := (congrFun pg_144 684).trans rfl
theorem q_144_684 {L : List Value} {S : List Value} {Z : gZ} {I : gI} {J : gJ} : g_at 144 684 L S Z I J = g_at 144 685 L (.int 2 :: S) Z I J := gq_push e_144_684
set_option maxRecDepth 100000 in
theorem e_144_685 : g_Pg 144 685 = ga_bin (fun x y => x + y) 686 := (congrFun pg_144 685).trans rfl
theorem q_144_685 {L : List Value} {x y : Int32} {S : List Value} {Z : gZ} {I : gI} {J : gJ} : g_at 144 685 L (.int y :: .int x :: S) Z I J = g_at 144 686 L (.int (x + y) :: S) Z I J := gq_bin e_144_685
set_option maxRecDepth 100000 in
theorem e_144_686 : g_Pg 144 686 = ga_iald 687 := (congrFun pg_144 686).trans rfl
theorem q_144_686 {L : List Value} {a : Nat} {i : Int32} {S : List Value} {Z : gZ} {I : gI} {J : gJ} (h : gTg8 (gKd Z a).1 a = true) (h0 : 0 ≤ i) (h1 : i.toNatClampNeg < (gKd Z a).2) : g_at 144 686 L (.int i :: .ref a :: S) Z I J = g_at 144 687 L (.int (I a i.toNatClampNeg) :: S) Z I J := gq_iald e_144_686 h h0 h1
set_option maxRecDepth 100000 in
theorem e_144_687 : g_Pg 144 687 = ga_aload 0 688 := (congrFun pg_144 687).trans rfl
theorem q_144_687 {l1 l2 l3 : Value} {x : Nat} {S : List Value} {Z : gZ} {I : gI} {J : gJ} : g_at 144 687 [.ref x, l1, l2, l3] S Z I J = g_at 144 688 [.ref x, l1, l2, l3] (.ref x :: S) Z I J := gq_aload e_144_687 rfl
set_option maxRecDepth 100000 in
theorem e_144_688 : g_Pg 144 688 = ga_iload 3 689 := (congrFun pg_144 688).trans rfl
theorem q_144_688 {l0 l1 l2 : Value} {x : Int32} {S : List Value} {Z : gZ} {I : gI} {J : gJ} : g_at 144 688 [l0, l1, l2, .int x] S Z I J = g_at 144 689 [l0, l1, l2, .int x] (.int x :: S) Z I J := gq_iload e_144_688 rfl
set_option maxRecDepth 100000 in
theorem e_144_689 : g_Pg 144 689 = ga_push (.int 3) 690 := (congrFun pg_144 689).trans rfl
theorem q_144_689 {L : List Value} {S : List Value} {Z : gZ} {I : gI} {J : gJ} : g_at 144 689 L S Z I J = g_at 144 690 L (.int 3 :: S) Z I J := gq_push e_144_689
set_option maxRecDepth 100000 in
theorem e_144_690 : g_Pg 144 690 = ga_bin (fun x y => x + y) 691 := (congrFun pg_144 690).trans rfl
theorem q_144_690 {L : List Value} {x y : Int32} {S : List Value} {Z : gZ} {I : gI} {J : gJ} : g_at 144 690 L (.int y :: .int x :: S) Z I J = g_at 144 691 L (.int (x + y) :: S) Z I J := gq_bin e_144_690
set_option maxRecDepth 100000 in
theorem e_144_691 : g_Pg 144 691 = ga_iald 692 := (congrFun pg_144 691).trans rfl
theorem q_144_691 {L : List Value} {a : Nat} {i : Int32} {S : List Value} {Z : gZ} {I : gI} {J : gJ} (h : gTg8 (gKd Z a).1 a = true) (h0 : 0 ≤ i) (h1 : i.toNatClampNeg < (gKd Z a).2) : g_at 144 691 L (.int i :: .ref a :: S) Z I J = g_at 144 692 L (.int (I a i.toNatClampNeg) :: S) Z I J := gq_iald e_144_691 h h0 h1
set_option maxRecDepth 100000 in
theorem e_144_692 : g_Pg 144 692 = ga_aload 0 693 := (congrFun pg_144 692).trans rfl
theorem q_144_692 {l1 l2 l3 : Value} {x : Nat} {S : List Value} {Z : gZ} {I : gI} {J : gJ} : g_at 144 692 [.ref x, l1, l2, l3] S Z I J = g_at 144 693 [.ref x, l1, l2, l3] (.ref x :: S) Z I J := gq_aload e_144_692 rfl
set_option maxRecDepth 100000 in
theorem e_144_693 : g_Pg 144 693 = ga_iload 3 694 := (congrFun pg_144 693).trans rfl
theorem q_144_693 {l0 l1 l2 : Value} {x : Int32} {S : List Value} {Z : gZ} {I : gI} {J : gJ} : g_at 144 693 [l0, l1, l2, .int x] S Z I J = g_at 144 694 [l0, l1, l2, .int x] (.int x :: S) Z I J := gq_iload e_144_693 rfl
set_option maxRecDepth 100000 in
theorem e_144_694 : g_Pg 144 694 = ga_push (.int 4) 695 := (congrFun pg_144 694).trans rfl
theorem q_144_694 {L : List Value} {S : List Value} {Z : gZ} {I : gI} {J : gJ} : g_at 144 694 L S Z I J = g_at 144 695 L (.int 4 :: S) Z I J := gq_push e_144_694
set_option maxRecDepth 100000 in
theorem e_144_695 : g_Pg 144 695 = ga_bin (fun x y => x + y) 696 := (congrFun pg_144 695).trans rfl
theorem q_144_695 {L : List Value} {x y : Int32} {S : List Value} {Z : gZ} {I : gI} {J : gJ} : g_at 144 695 L (.int y :: .int x :: S) Z I J = g_at 144 696 L (.int (x + y) :: S) Z I J := gq_bin e_144_695
set_option maxRecDepth 100000 in
theorem e_144_696 : g_Pg 144 696 = ga_iald 697 := (congrFun pg_144 696).trans rfl
theorem q_144_696 {L : List Value} {a : Nat} {i : Int32} {S : List Value} {Z : gZ} {I : gI} {J : gJ} (h : gTg8 (gKd Z a).1 a = true) (h0 : 0 ≤ i) (h1 : i.toNatClampNeg < (gKd Z a).2) : g_at 144 696 L (.int i :: .ref a :: S) Z I J = g_at 144 697 L (.int (I a i.toNatClampNeg) :: S) Z I J := gq_iald e_144_696 h h0 h1
set_option maxRecDepth 100000 in
theorem e_144_697 : g_Pg 144 697 = ga_callV 7 123 4 700 := (congrFun pg_144 697).trans rfl
theorem q_144_697 {L : List Value} {a0 : Int32} {a1 : Int32} {a2 : Int32} {a3 : Int32} {a4 : Nat} {r5 : Int32} {Z : gZ} {I : gI} {J : gJ} (h : (gKd Z a4).1 = 7) : g_at 144 697 L [.int a0, .int a1, .int a2, .int a3, .ref a4, .int r5] Z I J = (g_at 123 0 [.ref a4, .int a3, .int a2, .int a1, .int a0, .null, .null, .null, .null, .null, .null] [] Z I J).bind (fun r => g_at 144 700 L (r.1.toList ++ [.int r5]) r.2.1 r.2.2.1 r.2.2.2) := gq_callV e_144_697 rfl rfl h rfl rfl rfl rfl rfl
set_option maxRecDepth 100000 in
theorem e_144_700 : g_Pg 144 700 = ga_cmp (fun x y => decide (x = y)) 893 703 := (congrFun pg_144 700).trans rfl
theorem q_144_700 {L : List Value} {x y : Int32} {S : List Value} {Z : gZ} {I : gI} {J : gJ} : g_at 144 700 L (.int y :: .int x :: S) Z I J = if x = y then g_at 144 893 L S Z I J else g_at 144 703 L S Z I J := gq_cmp e_144_700 rfl
set_option maxRecDepth 100000 in
theorem e_144_703 : g_Pg 144 703 = ga_push (.int 0) 704 := (congrFun pg_144 703).trans rfl
theorem q_144_703 {L : List Value} {S : List Value} {Z : gZ} {I : gI} {J : gJ} : g_at 144 703 L S Z I J = g_at 144 704 L (.int 0 :: S) Z I J := gq_push e_144_703
set_option maxRecDepth 100000 in
theorem e_144_704 : g_Pg 144 704 = ga_zret := (congrFun pg_144 704).trans rfl
theorem q_144_704 {L : List Value} {x : Int32} {Z : gZ} {I : gI} {J : gJ} (h : gB01 x = true) : g_at 144 704 L [.int x] Z I J = some (some (.int x), Z, I, J) := gq_zret e_144_704 h
set_option maxRecDepth 100000 in
theorem e_144_705 : g_Pg 144 705 = ga_aload 1 706 := (congrFun pg_144 705).trans rfl
theorem q_144_705 {l0 l2 l3 : Value} {x : Nat} {S : List Value} {Z : gZ} {I : gI} {J : gJ} : g_at 144 705 [l0, .ref x, l2, l3] S Z I J = g_at 144 706 [l0, .ref x, l2, l3] (.ref x :: S) Z I J := gq_aload e_144_705 rfl
set_option maxRecDepth 100000 in
theorem e_144_706 : g_Pg 144 706 = ga_aload 0 707 := (congrFun pg_144 706).trans rfl
theorem q_144_706 {l1 l2 l3 : Value} {x : Nat} {S : List Value} {Z : gZ} {I : gI} {J : gJ} : g_at 144 706 [.ref x, l1, l2, l3] S Z I J = g_at 144 707 [.ref x, l1, l2, l3] (.ref x :: S) Z I J := gq_aload e_144_706 rfl
set_option maxRecDepth 100000 in
theorem e_144_707 : g_Pg 144 707 = ga_iload 3 708 := (congrFun pg_144 707).trans rfl
theorem q_144_707 {l0 l1 l2 : Value} {x : Int32} {S : List Value} {Z : gZ} {I : gI} {J : gJ} : g_at 144 707 [l0, l1, l2, .int x] S Z I J = g_at 144 708 [l0, l1, l2, .int x] (.int x :: S) Z I J := gq_iload e_144_707 rfl
set_option maxRecDepth 100000 in
theorem e_144_708 : g_Pg 144 708 = ga_push (.int 1) 709 := (congrFun pg_144 708).trans rfl
theorem q_144_708 {L : List Value} {S : List Value} {Z : gZ} {I : gI} {J : gJ} : g_at 144 708 L S Z I J = g_at 144 709 L (.int 1 :: S) Z I J := gq_push e_144_708
set_option maxRecDepth 100000 in
theorem e_144_709 : g_Pg 144 709 = ga_bin (fun x y => x + y) 710 := (congrFun pg_144 709).trans rfl
theorem q_144_709 {L : List Value} {x y : Int32} {S : List Value} {Z : gZ} {I : gI} {J : gJ} : g_at 144 709 L (.int y :: .int x :: S) Z I J = g_at 144 710 L (.int (x + y) :: S) Z I J := gq_bin e_144_709
set_option maxRecDepth 100000 in
theorem e_144_710 : g_Pg 144 710 = ga_iald 711 := (congrFun pg_144 710).trans rfl
theorem q_144_710 {L : List Value} {a : Nat} {i : Int32} {S : List Value} {Z : gZ} {I : gI} {J : gJ} (h : gTg8 (gKd Z a).1 a = true) (h0 : 0 ≤ i) (h1 : i.toNatClampNeg < (gKd Z a).2) : g_at 144 710 L (.int i :: .ref a :: S) Z I J = g_at 144 711 L (.int (I a i.toNatClampNeg) :: S) Z I J := gq_iald e_144_710 h h0 h1
set_option maxRecDepth 100000 in
theorem e_144_711 : g_Pg 144 711 = ga_aload 0 712 := (congrFun pg_144 711).trans rfl
theorem q_144_711 {l1 l2 l3 : Value} {x : Nat} {S : List Value} {Z : gZ} {I : gI} {J : gJ} : g_at 144 711 [.ref x, l1, l2, l3] S Z I J = g_at 144 712 [.ref x, l1, l2, l3] (.ref x :: S) Z I J := gq_aload e_144_711 rfl
set_option maxRecDepth 100000 in
theorem e_144_712 : g_Pg 144 712 = ga_iload 3 713 := (congrFun pg_144 712).trans rfl
theorem q_144_712 {l0 l1 l2 : Value} {x : Int32} {S : List Value} {Z : gZ} {I : gI} {J : gJ} : g_at 144 712 [l0, l1, l2, .int x] S Z I J = g_at 144 713 [l0, l1, l2, .int x] (.int x :: S) Z I J := gq_iload e_144_712 rfl
set_option maxRecDepth 100000 in
theorem e_144_713 : g_Pg 144 713 = ga_push (.int 2) 714 := (congrFun pg_144 713).trans rfl
theorem q_144_713 {L : List Value} {S : List Value} {Z : gZ} {I : gI} {J : gJ} : g_at 144 713 L S Z I J = g_at 144 714 L (.int 2 :: S) Z I J := gq_push e_144_713
set_option maxRecDepth 100000 in
theorem e_144_714 : g_Pg 144 714 = ga_bin (fun x y => x + y) 715 := (congrFun pg_144 714).trans rfl
theorem q_144_714 {L : List Value} {x y : Int32} {S : List Value} {Z : gZ} {I : gI} {J : gJ} : g_at 144 714 L (.int y :: .int x :: S) Z I J = g_at 144 715 L (.int (x + y) :: S) Z I J := gq_bin e_144_714
set_option maxRecDepth 100000 in
theorem e_144_715 : g_Pg 144 715 = ga_iald 716 := (congrFun pg_144 715).trans rfl
theorem q_144_715 {L : List Value} {a : Nat} {i : Int32} {S : List Value} {Z : gZ} {I : gI} {J : gJ} (h : gTg8 (gKd Z a).1 a = true) (h0 : 0 ≤ i) (h1 : i.toNatClampNeg < (gKd Z a).2) : g_at 144 715 L (.int i :: .ref a :: S) Z I J = g_at 144 716 L (.int (I a i.toNatClampNeg) :: S) Z I J := gq_iald e_144_715 h h0 h1
set_option maxRecDepth 100000 in
theorem e_144_716 : g_Pg 144 716 = ga_callV 6 73 2 719 := (congrFun pg_144 716).trans rfl
theorem q_144_716 {L : List Value} {a0 : Int32} {a1 : Int32} {a2 : Nat} {Z : gZ} {I : gI} {J : gJ} (h : (gKd Z a2).1 = 6) : g_at 144 716 L [.int a0, .int a1, .ref a2] Z I J = (g_at 73 0 [.ref a2, .int a1, .int a0, .null] [] Z I J).bind (fun r => g_at 144 719 L (r.1.toList ++ []) r.2.1 r.2.2.1 r.2.2.2) := gq_callV e_144_716 rfl rfl h rfl rfl rfl rfl rfl
set_option maxRecDepth 100000 in
theorem e_144_719 : g_Pg 144 719 = ga_aload 2 720 := (congrFun pg_144 719).trans rfl
theorem q_144_719 {l0 l1 l3 : Value} {x : Nat} {S : List Value} {Z : gZ} {I : gI} {J : gJ} : g_at 144 719 [l0, l1, .ref x, l3] S Z I J = g_at 144 720 [l0, l1, .ref x, l3] (.ref x :: S) Z I J := gq_aload e_144_719 rfl
set_option maxRecDepth 100000 in
theorem e_144_720 : g_Pg 144 720 = ga_aload 0 721 := (congrFun pg_144 720).trans rfl
theorem q_144_720 {l1 l2 l3 : Value} {x : Nat} {S : List Value} {Z : gZ} {I : gI} {J : gJ} : g_at 144 720 [.ref x, l1, l2, l3] S Z I J = g_at 144 721 [.ref x, l1, l2, l3] (.ref x :: S) Z I J := gq_aload e_144_720 rfl
set_option maxRecDepth 100000 in
theorem e_144_721 : g_Pg 144 721 = ga_iload 3 722 := (congrFun pg_144 721).trans rfl
theorem q_144_721 {l0 l1 l2 : Value} {x : Int32} {S : List Value} {Z : gZ} {I : gI} {J : gJ} : g_at 144 721 [l0, l1, l2, .int x] S Z I J = g_at 144 722 [l0, l1, l2, .int x] (.int x :: S) Z I J := gq_iload e_144_721 rfl
set_option maxRecDepth 100000 in
theorem e_144_722 : g_Pg 144 722 = ga_push (.int 1) 723 := (congrFun pg_144 722).trans rfl
theorem q_144_722 {L : List Value} {S : List Value} {Z : gZ} {I : gI} {J : gJ} : g_at 144 722 L S Z I J = g_at 144 723 L (.int 1 :: S) Z I J := gq_push e_144_722
set_option maxRecDepth 100000 in
theorem e_144_723 : g_Pg 144 723 = ga_bin (fun x y => x + y) 724 := (congrFun pg_144 723).trans rfl
theorem q_144_723 {L : List Value} {x y : Int32} {S : List Value} {Z : gZ} {I : gI} {J : gJ} : g_at 144 723 L (.int y :: .int x :: S) Z I J = g_at 144 724 L (.int (x + y) :: S) Z I J := gq_bin e_144_723
set_option maxRecDepth 100000 in
theorem e_144_724 : g_Pg 144 724 = ga_iald 725 := (congrFun pg_144 724).trans rfl
theorem q_144_724 {L : List Value} {a : Nat} {i : Int32} {S : List Value} {Z : gZ} {I : gI} {J : gJ} (h : gTg8 (gKd Z a).1 a = true) (h0 : 0 ≤ i) (h1 : i.toNatClampNeg < (gKd Z a).2) : g_at 144 724 L (.int i :: .ref a :: S) Z I J = g_at 144 725 L (.int (I a i.toNatClampNeg) :: S) Z I J := gq_iald e_144_724 h h0 h1
set_option maxRecDepth 100000 in
theorem e_144_725 : g_Pg 144 725 = ga_aload 0 726 := (congrFun pg_144 725).trans rfl
theorem q_144_725 {l1 l2 l3 : Value} {x : Nat} {S : List Value} {Z : gZ} {I : gI} {J : gJ} : g_at 144 725 [.ref x, l1, l2, l3] S Z I J = g_at 144 726 [.ref x, l1, l2, l3] (.ref x :: S) Z I J := gq_aload e_144_725 rfl
set_option maxRecDepth 100000 in
theorem e_144_726 : g_Pg 144 726 = ga_iload 3 727 := (congrFun pg_144 726).trans rfl
theorem q_144_726 {l0 l1 l2 : Value} {x : Int32} {S : List Value} {Z : gZ} {I : gI} {J : gJ} : g_at 144 726 [l0, l1, l2, .int x] S Z I J = g_at 144 727 [l0, l1, l2, .int x] (.int x :: S) Z I J := gq_iload e_144_726 rfl
set_option maxRecDepth 100000 in
theorem e_144_727 : g_Pg 144 727 = ga_push (.int 2) 728 := (congrFun pg_144 727).trans rfl
theorem q_144_727 {L : List Value} {S : List Value} {Z : gZ} {I : gI} {J : gJ} : g_at 144 727 L S Z I J = g_at 144 728 L (.int 2 :: S) Z I J := gq_push e_144_727
set_option maxRecDepth 100000 in
theorem e_144_728 : g_Pg 144 728 = ga_bin (fun x y => x + y) 729 := (congrFun pg_144 728).trans rfl
theorem q_144_728 {L : List Value} {x y : Int32} {S : List Value} {Z : gZ} {I : gI} {J : gJ} : g_at 144 728 L (.int y :: .int x :: S) Z I J = g_at 144 729 L (.int (x + y) :: S) Z I J := gq_bin e_144_728
set_option maxRecDepth 100000 in
theorem e_144_729 : g_Pg 144 729 = ga_iald 730 := (congrFun pg_144 729).trans rfl
theorem q_144_729 {L : List Value} {a : Nat} {i : Int32} {S : List Value} {Z : gZ} {I : gI} {J : gJ} (h : gTg8 (gKd Z a).1 a = true) (h0 : 0 ≤ i) (h1 : i.toNatClampNeg < (gKd Z a).2) : g_at 144 729 L (.int i :: .ref a :: S) Z I J = g_at 144 730 L (.int (I a i.toNatClampNeg) :: S) Z I J := gq_iald e_144_729 h h0 h1
set_option maxRecDepth 100000 in
theorem e_144_730 : g_Pg 144 730 = ga_callV 7 126 2 733 := (congrFun pg_144 730).trans rfl
theorem q_144_730 {L : List Value} {a0 : Int32} {a1 : Int32} {a2 : Nat} {r3 : Int32} {Z : gZ} {I : gI} {J : gJ} (h : (gKd Z a2).1 = 7) : g_at 144 730 L [.int a0, .int a1, .ref a2, .int r3] Z I J = (g_at 126 0 [.ref a2, .int a1, .int a0, .null, .null, .null, .null] [] Z I J).bind (fun r => g_at 144 733 L (r.1.toList ++ [.int r3]) r.2.1 r.2.2.1 r.2.2.2) := gq_callV e_144_730 rfl rfl h rfl rfl rfl rfl rfl
set_option maxRecDepth 100000 in
theorem e_144_733 : g_Pg 144 733 = ga_cmp (fun x y => decide (x = y)) 893 736 := (congrFun pg_144 733).trans rfl
theorem q_144_733 {L : List Value} {x y : Int32} {S : List Value} {Z : gZ} {I : gI} {J : gJ} : g_at 144 733 L (.int y :: .int x :: S) Z I J = if x = y then g_at 144 893 L S Z I J else g_at 144 736 L S Z I J := gq_cmp e_144_733 rfl
set_option maxRecDepth 100000 in
theorem e_144_736 : g_Pg 144 736 = ga_push (.int 0) 737 := (congrFun pg_144 736).trans rfl
theorem q_144_736 {L : List Value} {S : List Value} {Z : gZ} {I : gI} {J : gJ} : g_at 144 736 L S Z I J = g_at 144 737 L (.int 0 :: S) Z I J := gq_push e_144_736
set_option maxRecDepth 100000 in
theorem e_144_737 : g_Pg 144 737 = ga_zret := (congrFun pg_144 737).trans rfl
theorem q_144_737 {L : List Value} {x : Int32} {Z : gZ} {I : gI} {J : gJ} (h : gB01 x = true) : g_at 144 737 L [.int x] Z I J = some (some (.int x), Z, I, J) := gq_zret e_144_737 h
set_option maxRecDepth 100000 in
theorem e_144_738 : g_Pg 144 738 = ga_aload 1 739 := (congrFun pg_144 738).trans rfl
theorem q_144_738 {l0 l2 l3 : Value} {x : Nat} {S : List Value} {Z : gZ} {I : gI} {J : gJ} : g_at 144 738 [l0, .ref x, l2, l3] S Z I J = g_at 144 739 [l0, .ref x, l2, l3] (.ref x :: S) Z I J := gq_aload e_144_738 rfl
set_option maxRecDepth 100000 in
theorem e_144_739 : g_Pg 144 739 = ga_aload 0 740 := (congrFun pg_144 739).trans rfl
theorem q_144_739 {l1 l2 l3 : Value} {x : Nat} {S : List Value} {Z : gZ} {I : gI} {J : gJ} : g_at 144 739 [.ref x, l1, l2, l3] S Z I J = g_at 144 740 [.ref x, l1, l2, l3] (.ref x :: S) Z I J := gq_aload e_144_739 rfl
set_option maxRecDepth 100000 in
theorem e_144_740 : g_Pg 144 740 = ga_iload 3 741 := (congrFun pg_144 740).trans rfl
theorem q_144_740 {l0 l1 l2 : Value} {x : Int32} {S : List Value} {Z : gZ} {I : gI} {J : gJ} : g_at 144 740 [l0, l1, l2, .int x] S Z I J = g_at 144 741 [l0, l1, l2, .int x] (.int x :: S) Z I J := gq_iload e_144_740 rfl
set_option maxRecDepth 100000 in
theorem e_144_741 : g_Pg 144 741 = ga_push (.int 1) 742 := (congrFun pg_144 741).trans rfl
theorem q_144_741 {L : List Value} {S : List Value} {Z : gZ} {I : gI} {J : gJ} : g_at 144 741 L S Z I J = g_at 144 742 L (.int 1 :: S) Z I J := gq_push e_144_741
set_option maxRecDepth 100000 in
theorem e_144_742 : g_Pg 144 742 = ga_bin (fun x y => x + y) 743 := (congrFun pg_144 742).trans rfl
theorem q_144_742 {L : List Value} {x y : Int32} {S : List Value} {Z : gZ} {I : gI} {J : gJ} : g_at 144 742 L (.int y :: .int x :: S) Z I J = g_at 144 743 L (.int (x + y) :: S) Z I J := gq_bin e_144_742
set_option maxRecDepth 100000 in
theorem e_144_743 : g_Pg 144 743 = ga_iald 744 := (congrFun pg_144 743).trans rfl
theorem q_144_743 {L : List Value} {a : Nat} {i : Int32} {S : List Value} {Z : gZ} {I : gI} {J : gJ} (h : gTg8 (gKd Z a).1 a = true) (h0 : 0 ≤ i) (h1 : i.toNatClampNeg < (gKd Z a).2) : g_at 144 743 L (.int i :: .ref a :: S) Z I J = g_at 144 744 L (.int (I a i.toNatClampNeg) :: S) Z I J := gq_iald e_144_743 h h0 h1
set_option maxRecDepth 100000 in
theorem e_144_744 : g_Pg 144 744 = ga_aload 0 745 := (congrFun pg_144 744).trans rfl
theorem q_144_744 {l1 l2 l3 : Value} {x : Nat} {S : List Value} {Z : gZ} {I : gI} {J : gJ} : g_at 144 744 [.ref x, l1, l2, l3] S Z I J = g_at 144 745 [.ref x, l1, l2, l3] (.ref x :: S) Z I J := gq_aload e_144_744 rfl
set_option maxRecDepth 100000 in
theorem e_144_745 : g_Pg 144 745 = ga_iload 3 746 := (congrFun pg_144 745).trans rfl
theorem q_144_745 {l0 l1 l2 : Value} {x : Int32} {S : List Value} {Z : gZ} {I : gI} {J : gJ} : g_at 144 745 [l0, l1, l2, .int x] S Z I J = g_at 144 746 [l0, l1, l2, .int x] (.int x :: S) Z I J := gq_iload e_144_745 rfl
set_option maxRecDepth 100000 in
theorem e_144_746 : g_Pg 144 746 = ga_push (.int 2) 747 := (congrFun pg_144 746).trans rfl
theorem q_144_746 {L : List Value} {S : List Value} {Z : gZ} {I : gI} {J : gJ} : g_at 144 746 L S Z I J = g_at 144 747 L (.int 2 :: S) Z I J := gq_push e_144_746
set_option maxRecDepth 100000 in
theorem e_144_747 : g_Pg 144 747 = ga_bin (fun x y => x + y) 748 := (congrFun pg_144 747).trans rfl
theorem q_144_747 {L : List Value} {x y : Int32} {S : List Value} {Z : gZ} {I : gI} {J : gJ} : g_at 144 747 L (.int y :: .int x :: S) Z I J = g_at 144 748 L (.int (x + y) :: S) Z I J := gq_bin e_144_747
set_option maxRecDepth 100000 in
theorem e_144_748 : g_Pg 144 748 = ga_iald 749 := (congrFun pg_144 748).trans rfl
theorem q_144_748 {L : List Value} {a : Nat} {i : Int32} {S : List Value} {Z : gZ} {I : gI} {J : gJ} (h : gTg8 (gKd Z a).1 a = true) (h0 : 0 ≤ i) (h1 : i.toNatClampNeg < (gKd Z a).2) : g_at 144 748 L (.int i :: .ref a :: S) Z I J = g_at 144 749 L (.int (I a i.toNatClampNeg) :: S) Z I J := gq_iald e_144_748 h h0 h1
set_option maxRecDepth 100000 in
theorem e_144_749 : g_Pg 144 749 = ga_aload 0 750 := (congrFun pg_144 749).trans rfl
theorem q_144_749 {l1 l2 l3 : Value} {x : Nat} {S : List Value} {Z : gZ} {I : gI} {J : gJ} : g_at 144 749 [.ref x, l1, l2, l3] S Z I J = g_at 144 750 [.ref x, l1, l2, l3] (.ref x :: S) Z I J := gq_aload e_144_749 rfl
set_option maxRecDepth 100000 in
theorem e_144_750 : g_Pg 144 750 = ga_iload 3 751 := (congrFun pg_144 750).trans rfl
theorem q_144_750 {l0 l1 l2 : Value} {x : Int32} {S : List Value} {Z : gZ} {I : gI} {J : gJ} : g_at 144 750 [l0, l1, l2, .int x] S Z I J = g_at 144 751 [l0, l1, l2, .int x] (.int x :: S) Z I J := gq_iload e_144_750 rfl
set_option maxRecDepth 100000 in
theorem e_144_751 : g_Pg 144 751 = ga_push (.int 3) 752 := (congrFun pg_144 751).trans rfl
theorem q_144_751 {L : List Value} {S : List Value} {Z : gZ} {I : gI} {J : gJ} : g_at 144 751 L S Z I J = g_at 144 752 L (.int 3 :: S) Z I J := gq_push e_144_751
set_option maxRecDepth 100000 in
theorem e_144_752 : g_Pg 144 752 = ga_bin (fun x y => x + y) 753 := (congrFun pg_144 752).trans rfl
theorem q_144_752 {L : List Value} {x y : Int32} {S : List Value} {Z : gZ} {I : gI} {J : gJ} : g_at 144 752 L (.int y :: .int x :: S) Z I J = g_at 144 753 L (.int (x + y) :: S) Z I J := gq_bin e_144_752
set_option maxRecDepth 100000 in
theorem e_144_753 : g_Pg 144 753 = ga_iald 754 := (congrFun pg_144 753).trans rfl
theorem q_144_753 {L : List Value} {a : Nat} {i : Int32} {S : List Value} {Z : gZ} {I : gI} {J : gJ} (h : gTg8 (gKd Z a).1 a = true) (h0 : 0 ≤ i) (h1 : i.toNatClampNeg < (gKd Z a).2) : g_at 144 753 L (.int i :: .ref a :: S) Z I J = g_at 144 754 L (.int (I a i.toNatClampNeg) :: S) Z I J := gq_iald e_144_753 h h0 h1
set_option maxRecDepth 100000 in
theorem e_144_754 : g_Pg 144 754 = ga_aload 0 755 := (congrFun pg_144 754).trans rfl
theorem q_144_754 {l1 l2 l3 : Value} {x : Nat} {S : List Value} {Z : gZ} {I : gI} {J : gJ} : g_at 144 754 [.ref x, l1, l2, l3] S Z I J = g_at 144 755 [.ref x, l1, l2, l3] (.ref x :: S) Z I J := gq_aload e_144_754 rfl
set_option maxRecDepth 100000 in
theorem e_144_755 : g_Pg 144 755 = ga_iload 3 756 := (congrFun pg_144 755).trans rfl
theorem q_144_755 {l0 l1 l2 : Value} {x : Int32} {S : List Value} {Z : gZ} {I : gI} {J : gJ} : g_at 144 755 [l0, l1, l2, .int x] S Z I J = g_at 144 756 [l0, l1, l2, .int x] (.int x :: S) Z I J := gq_iload e_144_755 rfl
set_option maxRecDepth 100000 in
theorem e_144_756 : g_Pg 144 756 = ga_push (.int 4) 757 := (congrFun pg_144 756).trans rfl
theorem q_144_756 {L : List Value} {S : List Value} {Z : gZ} {I : gI} {J : gJ} : g_at 144 756 L S Z I J = g_at 144 757 L (.int 4 :: S) Z I J := gq_push e_144_756
set_option maxRecDepth 100000 in
theorem e_144_757 : g_Pg 144 757 = ga_bin (fun x y => x + y) 758 := (congrFun pg_144 757).trans rfl
theorem q_144_757 {L : List Value} {x y : Int32} {S : List Value} {Z : gZ} {I : gI} {J : gJ} : g_at 144 757 L (.int y :: .int x :: S) Z I J = g_at 144 758 L (.int (x + y) :: S) Z I J := gq_bin e_144_757
set_option maxRecDepth 100000 in
theorem e_144_758 : g_Pg 144 758 = ga_iald 759 := (congrFun pg_144 758).trans rfl
theorem q_144_758 {L : List Value} {a : Nat} {i : Int32} {S : List Value} {Z : gZ} {I : gI} {J : gJ} (h : gTg8 (gKd Z a).1 a = true) (h0 : 0 ≤ i) (h1 : i.toNatClampNeg < (gKd Z a).2) : g_at 144 758 L (.int i :: .ref a :: S) Z I J = g_at 144 759 L (.int (I a i.toNatClampNeg) :: S) Z I J := gq_iald e_144_758 h h0 h1
set_option maxRecDepth 100000 in
theorem e_144_759 : g_Pg 144 759 = ga_callV 6 74 4 762 := (congrFun pg_144 759).trans rfl
theorem q_144_759 {L : List Value} {a0 : Int32} {a1 : Int32} {a2 : Int32} {a3 : Int32} {a4 : Nat} {Z : gZ} {I : gI} {J : gJ} (h : (gKd Z a4).1 = 6) : g_at 144 759 L [.int a0, .int a1, .int a2, .int a3, .ref a4] Z I J = (g_at 74 0 [.ref a4, .int a3, .int a2, .int a1, .int a0, .null, .null, .null] [] Z I J).bind (fun r => g_at 144 762 L (r.1.toList ++ []) r.2.1 r.2.2.1 r.2.2.2) := gq_callV e_144_759 rfl rfl h rfl rfl rfl rfl rfl
set_option maxRecDepth 100000 in
theorem e_144_762 : g_Pg 144 762 = ga_aload 2 763 := (congrFun pg_144 762).trans rfl
theorem q_144_762 {l0 l1 l3 : Value} {x : Nat} {S : List Value} {Z : gZ} {I : gI} {J : gJ} : g_at 144 762 [l0, l1, .ref x, l3] S Z I J = g_at 144 763 [l0, l1, .ref x, l3] (.ref x :: S) Z I J := gq_aload e_144_762 rfl
set_option maxRecDepth 100000 in
theorem e_144_763 : g_Pg 144 763 = ga_aload 0 764 := (congrFun pg_144 763).trans rfl
theorem q_144_763 {l1 l2 l3 : Value} {x : Nat} {S : List Value} {Z : gZ} {I : gI} {J : gJ} : g_at 144 763 [.ref x, l1, l2, l3] S Z I J = g_at 144 764 [.ref x, l1, l2, l3] (.ref x :: S) Z I J := gq_aload e_144_763 rfl
set_option maxRecDepth 100000 in
theorem e_144_764 : g_Pg 144 764 = ga_iload 3 765 := (congrFun pg_144 764).trans rfl
theorem q_144_764 {l0 l1 l2 : Value} {x : Int32} {S : List Value} {Z : gZ} {I : gI} {J : gJ} : g_at 144 764 [l0, l1, l2, .int x] S Z I J = g_at 144 765 [l0, l1, l2, .int x] (.int x :: S) Z I J := gq_iload e_144_764 rfl
set_option maxRecDepth 100000 in
theorem e_144_765 : g_Pg 144 765 = ga_push (.int 1) 766 := (congrFun pg_144 765).trans rfl
theorem q_144_765 {L : List Value} {S : List Value} {Z : gZ} {I : gI} {J : gJ} : g_at 144 765 L S Z I J = g_at 144 766 L (.int 1 :: S) Z I J := gq_push e_144_765
set_option maxRecDepth 100000 in
theorem e_144_766 : g_Pg 144 766 = ga_bin (fun x y => x + y) 767 := (congrFun pg_144 766).trans rfl
theorem q_144_766 {L : List Value} {x y : Int32} {S : List Value} {Z : gZ} {I : gI} {J : gJ} : g_at 144 766 L (.int y :: .int x :: S) Z I J = g_at 144 767 L (.int (x + y) :: S) Z I J := gq_bin e_144_766
set_option maxRecDepth 100000 in
theorem e_144_767 : g_Pg 144 767 = ga_iald 768 := (congrFun pg_144 767).trans rfl
theorem q_144_767 {L : List Value} {a : Nat} {i : Int32} {S : List Value} {Z : gZ} {I : gI} {J : gJ} (h : gTg8 (gKd Z a).1 a = true) (h0 : 0 ≤ i) (h1 : i.toNatClampNeg < (gKd Z a).2) : g_at 144 767 L (.int i :: .ref a :: S) Z I J = g_at 144 768 L (.int (I a i.toNatClampNeg) :: S) Z I J := gq_iald e_144_767 h h0 h1
set_option maxRecDepth 100000 in
theorem e_144_768 : g_Pg 144 768 = ga_aload 0 769 := (congrFun pg_144 768).trans rfl
theorem q_144_768 {l1 l2 l3 : Value} {x : Nat} {S : List Value} {Z : gZ} {I : gI} {J : gJ} : g_at 144 768 [.ref x, l1, l2, l3] S Z I J = g_at 144 769 [.ref x, l1, l2, l3] (.ref x :: S) Z I J := gq_aload e_144_768 rfl
set_option maxRecDepth 100000 in
theorem e_144_769 : g_Pg 144 769 = ga_iload 3 770 := (congrFun pg_144 769).trans rfl
theorem q_144_769 {l0 l1 l2 : Value} {x : Int32} {S : List Value} {Z : gZ} {I : gI} {J : gJ} : g_at 144 769 [l0, l1, l2, .int x] S Z I J = g_at 144 770 [l0, l1, l2, .int x] (.int x :: S) Z I J := gq_iload e_144_769 rfl
set_option maxRecDepth 100000 in
theorem e_144_770 : g_Pg 144 770 = ga_push (.int 2) 771 := (congrFun pg_144 770).trans rfl
theorem q_144_770 {L : List Value} {S : List Value} {Z : gZ} {I : gI} {J : gJ} : g_at 144 770 L S Z I J = g_at 144 771 L (.int 2 :: S) Z I J := gq_push e_144_770
set_option maxRecDepth 100000 in
theorem e_144_771 : g_Pg 144 771 = ga_bin (fun x y => x + y) 772 := (congrFun pg_144 771).trans rfl
theorem q_144_771 {L : List Value} {x y : Int32} {S : List Value} {Z : gZ} {I : gI} {J : gJ} : g_at 144 771 L (.int y :: .int x :: S) Z I J = g_at 144 772 L (.int (x + y) :: S) Z I J := gq_bin e_144_771
set_option maxRecDepth 100000 in
theorem e_144_772 : g_Pg 144 772 = ga_iald 773 := (congrFun pg_144 772).trans rfl
theorem q_144_772 {L : List Value} {a : Nat} {i : Int32} {S : List Value} {Z : gZ} {I : gI} {J : gJ} (h : gTg8 (gKd Z a).1 a = true) (h0 : 0 ≤ i) (h1 : i.toNatClampNeg < (gKd Z a).2) : g_at 144 772 L (.int i :: .ref a :: S) Z I J = g_at 144 773 L (.int (I a i.toNatClampNeg) :: S) Z I J := gq_iald e_144_772 h h0 h1
set_option maxRecDepth 100000 in
theorem e_144_773 : g_Pg 144 773 = ga_aload 0 774 := (congrFun pg_144 773).trans rfl
theorem q_144_773 {l1 l2 l3 : Value} {x : Nat} {S : List Value} {Z : gZ} {I : gI} {J : gJ} : g_at 144 773 [.ref x, l1, l2, l3] S Z I J = g_at 144 774 [.ref x, l1, l2, l3] (.ref x :: S) Z I J := gq_aload e_144_773 rfl
set_option maxRecDepth 100000 in
theorem e_144_774 : g_Pg 144 774 = ga_iload 3 775 := (congrFun pg_144 774).trans rfl
theorem q_144_774 {l0 l1 l2 : Value} {x : Int32} {S : List Value} {Z : gZ} {I : gI} {J : gJ} : g_at 144 774 [l0, l1, l2, .int x] S Z I J = g_at 144 775 [l0, l1, l2, .int x] (.int x :: S) Z I J := gq_iload e_144_774 rfl
set_option maxRecDepth 100000 in
theorem e_144_775 : g_Pg 144 775 = ga_push (.int 3) 776 := (congrFun pg_144 775).trans rfl
theorem q_144_775 {L : List Value} {S : List Value} {Z : gZ} {I : gI} {J : gJ} : g_at 144 775 L S Z I J = g_at 144 776 L (.int 3 :: S) Z I J := gq_push e_144_775
set_option maxRecDepth 100000 in
theorem e_144_776 : g_Pg 144 776 = ga_bin (fun x y => x + y) 777 := (congrFun pg_144 776).trans rfl
theorem q_144_776 {L : List Value} {x y : Int32} {S : List Value} {Z : gZ} {I : gI} {J : gJ} : g_at 144 776 L (.int y :: .int x :: S) Z I J = g_at 144 777 L (.int (x + y) :: S) Z I J := gq_bin e_144_776
set_option maxRecDepth 100000 in
theorem e_144_777 : g_Pg 144 777 = ga_iald 778 := (congrFun pg_144 777).trans rfl
theorem q_144_777 {L : List Value} {a : Nat} {i : Int32} {S : List Value} {Z : gZ} {I : gI} {J : gJ} (h : gTg8 (gKd Z a).1 a = true) (h0 : 0 ≤ i) (h1 : i.toNatClampNeg < (gKd Z a).2) : g_at 144 777 L (.int i :: .ref a :: S) Z I J = g_at 144 778 L (.int (I a i.toNatClampNeg) :: S) Z I J := gq_iald e_144_777 h h0 h1
set_option maxRecDepth 100000 in
theorem e_144_778 : g_Pg 144 778 = ga_aload 0 779 := (congrFun pg_144 778).trans rfl
theorem q_144_778 {l1 l2 l3 : Value} {x : Nat} {S : List Value} {Z : gZ} {I : gI} {J : gJ} : g_at 144 778 [.ref x, l1, l2, l3] S Z I J = g_at 144 779 [.ref x, l1, l2, l3] (.ref x :: S) Z I J := gq_aload e_144_778 rfl
set_option maxRecDepth 100000 in
theorem e_144_779 : g_Pg 144 779 = ga_iload 3 780 := (congrFun pg_144 779).trans rfl
theorem q_144_779 {l0 l1 l2 : Value} {x : Int32} {S : List Value} {Z : gZ} {I : gI} {J : gJ} : g_at 144 779 [l0, l1, l2, .int x] S Z I J = g_at 144 780 [l0, l1, l2, .int x] (.int x :: S) Z I J := gq_iload e_144_779 rfl
set_option maxRecDepth 100000 in
theorem e_144_780 : g_Pg 144 780 = ga_push (.int 4) 781 := (congrFun pg_144 780).trans rfl
theorem q_144_780 {L : List Value} {S : List Value} {Z : gZ} {I : gI} {J : gJ} : g_at 144 780 L S Z I J = g_at 144 781 L (.int 4 :: S) Z I J := gq_push e_144_780
set_option maxRecDepth 100000 in
theorem e_144_781 : g_Pg 144 781 = ga_bin (fun x y => x + y) 782 := (congrFun pg_144 781).trans rfl
theorem q_144_781 {L : List Value} {x y : Int32} {S : List Value} {Z : gZ} {I : gI} {J : gJ} : g_at 144 781 L (.int y :: .int x :: S) Z I J = g_at 144 782 L (.int (x + y) :: S) Z I J := gq_bin e_144_781
set_option maxRecDepth 100000 in
theorem e_144_782 : g_Pg 144 782 = ga_iald 783 := (congrFun pg_144 782).trans rfl
theorem q_144_782 {L : List Value} {a : Nat} {i : Int32} {S : List Value} {Z : gZ} {I : gI} {J : gJ} (h : gTg8 (gKd Z a).1 a = true) (h0 : 0 ≤ i) (h1 : i.toNatClampNeg < (gKd Z a).2) : g_at 144 782 L (.int i :: .ref a :: S) Z I J = g_at 144 783 L (.int (I a i.toNatClampNeg) :: S) Z I J := gq_iald e_144_782 h h0 h1
set_option maxRecDepth 100000 in
theorem e_144_783 : g_Pg 144 783 = ga_callV 7 127 4 786 := (congrFun pg_144 783).trans rfl
theorem q_144_783 {L : List Value} {a0 : Int32} {a1 : Int32} {a2 : Int32} {a3 : Int32} {a4 : Nat} {r5 : Int32} {Z : gZ} {I : gI} {J : gJ} (h : (gKd Z a4).1 = 7) : g_at 144 783 L [.int a0, .int a1, .int a2, .int a3, .ref a4, .int r5] Z I J = (g_at 127 0 [.ref a4, .int a3, .int a2, .int a1, .int a0, .null, .null, .null, .null, .null] [] Z I J).bind (fun r => g_at 144 786 L (r.1.toList ++ [.int r5]) r.2.1 r.2.2.1 r.2.2.2) := gq_callV e_144_783 rfl rfl h rfl rfl rfl rfl rfl
set_option maxRecDepth 100000 in
theorem e_144_786 : g_Pg 144 786 = ga_cmp (fun x y => decide (x = y)) 893 789 := (congrFun pg_144 786).trans rfl
theorem q_144_786 {L : List Value} {x y : Int32} {S : List Value} {Z : gZ} {I : gI} {J : gJ} : g_at 144 786 L (.int y :: .int x :: S) Z I J = if x = y then g_at 144 893 L S Z I J else g_at 144 789 L S Z I J := gq_cmp e_144_786 rfl
set_option maxRecDepth 100000 in
theorem e_144_789 : g_Pg 144 789 = ga_push (.int 0) 790 := (congrFun pg_144 789).trans rfl
theorem q_144_789 {L : List Value} {S : List Value} {Z : gZ} {I : gI} {J : gJ} : g_at 144 789 L S Z I J = g_at 144 790 L (.int 0 :: S) Z I J := gq_push e_144_789
set_option maxRecDepth 100000 in
theorem e_144_790 : g_Pg 144 790 = ga_zret := (congrFun pg_144 790).trans rfl
theorem q_144_790 {L : List Value} {x : Int32} {Z : gZ} {I : gI} {J : gJ} (h : gB01 x = true) : g_at 144 790 L [.int x] Z I J = some (some (.int x), Z, I, J) := gq_zret e_144_790 h
set_option maxRecDepth 100000 in
theorem e_144_791 : g_Pg 144 791 = ga_aload 1 792 := (congrFun pg_144 791).trans rfl
theorem q_144_791 {l0 l2 l3 : Value} {x : Nat} {S : List Value} {Z : gZ} {I : gI} {J : gJ} : g_at 144 791 [l0, .ref x, l2, l3] S Z I J = g_at 144 792 [l0, .ref x, l2, l3] (.ref x :: S) Z I J := gq_aload e_144_791 rfl
set_option maxRecDepth 100000 in
theorem e_144_792 : g_Pg 144 792 = ga_aload 0 793 := (congrFun pg_144 792).trans rfl
theorem q_144_792 {l1 l2 l3 : Value} {x : Nat} {S : List Value} {Z : gZ} {I : gI} {J : gJ} : g_at 144 792 [.ref x, l1, l2, l3] S Z I J = g_at 144 793 [.ref x, l1, l2, l3] (.ref x :: S) Z I J := gq_aload e_144_792 rfl
set_option maxRecDepth 100000 in
theorem e_144_793 : g_Pg 144 793 = ga_iload 3 794 := (congrFun pg_144 793).trans rfl
theorem q_144_793 {l0 l1 l2 : Value} {x : Int32} {S : List Value} {Z : gZ} {I : gI} {J : gJ} : g_at 144 793 [l0, l1, l2, .int x] S Z I J = g_at 144 794 [l0, l1, l2, .int x] (.int x :: S) Z I J := gq_iload e_144_793 rfl
set_option maxRecDepth 100000 in
theorem e_144_794 : g_Pg 144 794 = ga_push (.int 1) 795 := (congrFun pg_144 794).trans rfl
theorem q_144_794 {L : List Value} {S : List Value} {Z : gZ} {I : gI} {J : gJ} : g_at 144 794 L S Z I J = g_at 144 795 L (.int 1 :: S) Z I J := gq_push e_144_794
set_option maxRecDepth 100000 in
theorem e_144_795 : g_Pg 144 795 = ga_bin (fun x y => x + y) 796 := (congrFun pg_144 795).trans rfl
theorem q_144_795 {L : List Value} {x y : Int32} {S : List Value} {Z : gZ} {I : gI} {J : gJ} : g_at 144 795 L (.int y :: .int x :: S) Z I J = g_at 144 796 L (.int (x + y) :: S) Z I J := gq_bin e_144_795
set_option maxRecDepth 100000 in
theorem e_144_796 : g_Pg 144 796 = ga_iald 797 := (congrFun pg_144 796).trans rfl
theorem q_144_796 {L : List Value} {a : Nat} {i : Int32} {S : List Value} {Z : gZ} {I : gI} {J : gJ} (h : gTg8 (gKd Z a).1 a = true) (h0 : 0 ≤ i) (h1 : i.toNatClampNeg < (gKd Z a).2) : g_at 144 796 L (.int i :: .ref a :: S) Z I J = g_at 144 797 L (.int (I a i.toNatClampNeg) :: S) Z I J := gq_iald e_144_796 h h0 h1
set_option maxRecDepth 100000 in
theorem e_144_797 : g_Pg 144 797 = ga_aload 0 798 := (congrFun pg_144 797).trans rfl
theorem q_144_797 {l1 l2 l3 : Value} {x : Nat} {S : List Value} {Z : gZ} {I : gI} {J : gJ} : g_at 144 797 [.ref x, l1, l2, l3] S Z I J = g_at 144 798 [.ref x, l1, l2, l3] (.ref x :: S) Z I J := gq_aload e_144_797 rfl
set_option maxRecDepth 100000 in
theorem e_144_798 : g_Pg 144 798 = ga_iload 3 799 := (congrFun pg_144 798).trans rfl
theorem q_144_798 {l0 l1 l2 : Value} {x : Int32} {S : List Value} {Z : gZ} {I : gI} {J : gJ} : g_at 144 798 [l0, l1, l2, .int x] S Z I J = g_at 144 799 [l0, l1, l2, .int x] (.int x :: S) Z I J := gq_iload e_144_798 rfl
set_option maxRecDepth 100000 in
theorem e_144_799 : g_Pg 144 799 = ga_push (.int 2) 800 := (congrFun pg_144 799).trans rfl
theorem q_144_799 {L : List Value} {S : List Value} {Z : gZ} {I : gI} {J : gJ} : g_at 144 799 L S Z I J = g_at 144 800 L (.int 2 :: S) Z I J := gq_push e_144_799
set_option maxRecDepth 100000 in
theorem e_144_800 : g_Pg 144 800 = ga_bin (fun x y => x + y) 801 := (congrFun pg_144 800).trans rfl
theorem q_144_800 {L : List Value} {x y : Int32} {S : List Value} {Z : gZ} {I : gI} {J : gJ} : g_at 144 800 L (.int y :: .int x :: S) Z I J = g_at 144 801 L (.int (x + y) :: S) Z I J := gq_bin e_144_800
set_option maxRecDepth 100000 in
theorem e_144_801 : g_Pg 144 801 = ga_iald 802 := (congrFun pg_144 801).trans rfl
theorem q_144_801 {L : List Value} {a : Nat} {i : Int32} {S : List Value} {Z : gZ} {I : gI} {J : gJ} (h : gTg8 (gKd Z a).1 a = true) (h0 : 0 ≤ i) (h1 : i.toNatClampNeg < (gKd Z a).2) : g_at 144 801 L (.int i :: .ref a :: S) Z I J = g_at 144 802 L (.int (I a i.toNatClampNeg) :: S) Z I J := gq_iald e_144_801 h h0 h1
set_option maxRecDepth 100000 in
theorem e_144_802 : g_Pg 144 802 = ga_callV 6 78 2 805 := (congrFun pg_144 802).trans rfl
theorem q_144_802 {L : List Value} {a0 : Int32} {a1 : Int32} {a2 : Nat} {Z : gZ} {I : gI} {J : gJ} (h : (gKd Z a2).1 = 6) : g_at 144 802 L [.int a0, .int a1, .ref a2] Z I J = (g_at 78 0 [.ref a2, .int a1, .int a0] [] Z I J).bind (fun r => g_at 144 805 L (r.1.toList ++ []) r.2.1 r.2.2.1 r.2.2.2) := gq_callV e_144_802 rfl rfl h rfl rfl rfl rfl rfl
set_option maxRecDepth 100000 in
theorem e_144_805 : g_Pg 144 805 = ga_aload 2 806 := (congrFun pg_144 805).trans rfl
theorem q_144_805 {l0 l1 l3 : Value} {x : Nat} {S : List Value} {Z : gZ} {I : gI} {J : gJ} : g_at 144 805 [l0, l1, .ref x, l3] S Z I J = g_at 144 806 [l0, l1, .ref x, l3] (.ref x :: S) Z I J := gq_aload e_144_805 rfl
set_option maxRecDepth 100000 in
theorem e_144_806 : g_Pg 144 806 = ga_aload 0 807 := (congrFun pg_144 806).trans rfl
theorem q_144_806 {l1 l2 l3 : Value} {x : Nat} {S : List Value} {Z : gZ} {I : gI} {J : gJ} : g_at 144 806 [.ref x, l1, l2, l3] S Z I J = g_at 144 807 [.ref x, l1, l2, l3] (.ref x :: S) Z I J := gq_aload e_144_806 rfl
set_option maxRecDepth 100000 in
theorem e_144_807 : g_Pg 144 807 = ga_iload 3 808 := (congrFun pg_144 807).trans rfl
theorem q_144_807 {l0 l1 l2 : Value} {x : Int32} {S : List Value} {Z : gZ} {I : gI} {J : gJ} : g_at 144 807 [l0, l1, l2, .int x] S Z I J = g_at 144 808 [l0, l1, l2, .int x] (.int x :: S) Z I J := gq_iload e_144_807 rfl
set_option maxRecDepth 100000 in
theorem e_144_808 : g_Pg 144 808 = ga_push (.int 1) 809 := (congrFun pg_144 808).trans rfl
theorem q_144_808 {L : List Value} {S : List Value} {Z : gZ} {I : gI} {J : gJ} : g_at 144 808 L S Z I J = g_at 144 809 L (.int 1 :: S) Z I J := gq_push e_144_808
set_option maxRecDepth 100000 in
theorem e_144_809 : g_Pg 144 809 = ga_bin (fun x y => x + y) 810 := (congrFun pg_144 809).trans rfl
theorem q_144_809 {L : List Value} {x y : Int32} {S : List Value} {Z : gZ} {I : gI} {J : gJ} : g_at 144 809 L (.int y :: .int x :: S) Z I J = g_at 144 810 L (.int (x + y) :: S) Z I J := gq_bin e_144_809
set_option maxRecDepth 100000 in
theorem e_144_810 : g_Pg 144 810 = ga_iald 811 := (congrFun pg_144 810).trans rfl
theorem q_144_810 {L : List Value} {a : Nat} {i : Int32} {S : List Value} {Z : gZ} {I : gI} {J : gJ} (h : gTg8 (gKd Z a).1 a = true) (h0 : 0 ≤ i) (h1 : i.toNatClampNeg < (gKd Z a).2) : g_at 144 810 L (.int i :: .ref a :: S) Z I J = g_at 144 811 L (.int (I a i.toNatClampNeg) :: S) Z I J := gq_iald e_144_810 h h0 h1
set_option maxRecDepth 100000 in
theorem e_144_811 : g_Pg 144 811 = ga_aload 0 812 := (congrFun pg_144 811).trans rfl
theorem q_144_811 {l1 l2 l3 : Value} {x : Nat} {S : List Value} {Z : gZ} {I : gI} {J : gJ} : g_at 144 811 [.ref x, l1, l2, l3] S Z I J = g_at 144 812 [.ref x, l1, l2, l3] (.ref x :: S) Z I J := gq_aload e_144_811 rfl
set_option maxRecDepth 100000 in
theorem e_144_812 : g_Pg 144 812 = ga_iload 3 813 := (congrFun pg_144 812).trans rfl
theorem q_144_812 {l0 l1 l2 : Value} {x : Int32} {S : List Value} {Z : gZ} {I : gI} {J : gJ} : g_at 144 812 [l0, l1, l2, .int x] S Z I J = g_at 144 813 [l0, l1, l2, .int x] (.int x :: S) Z I J := gq_iload e_144_812 rfl
set_option maxRecDepth 100000 in
theorem e_144_813 : g_Pg 144 813 = ga_push (.int 2) 814 := (congrFun pg_144 813).trans rfl
theorem q_144_813 {L : List Value} {S : List Value} {Z : gZ} {I : gI} {J : gJ} : g_at 144 813 L S Z I J = g_at 144 814 L (.int 2 :: S) Z I J := gq_push e_144_813
set_option maxRecDepth 100000 in
theorem e_144_814 : g_Pg 144 814 = ga_bin (fun x y => x + y) 815 := (congrFun pg_144 814).trans rfl
theorem q_144_814 {L : List Value} {x y : Int32} {S : List Value} {Z : gZ} {I : gI} {J : gJ} : g_at 144 814 L (.int y :: .int x :: S) Z I J = g_at 144 815 L (.int (x + y) :: S) Z I J := gq_bin e_144_814
set_option maxRecDepth 100000 in
theorem e_144_815 : g_Pg 144 815 = ga_iald 816 := (congrFun pg_144 815).trans rfl
theorem q_144_815 {L : List Value} {a : Nat} {i : Int32} {S : List Value} {Z : gZ} {I : gI} {J : gJ} (h : gTg8 (gKd Z a).1 a = true) (h0 : 0 ≤ i) (h1 : i.toNatClampNeg < (gKd Z a).2) : g_at 144 815 L (.int i :: .ref a :: S) Z I J = g_at 144 816 L (.int (I a i.toNatClampNeg) :: S) Z I J := gq_iald e_144_815 h h0 h1
set_option maxRecDepth 100000 in
theorem e_144_816 : g_Pg 144 816 = ga_callV 7 128 2 819 := (congrFun pg_144 816).trans rfl
theorem q_144_816 {L : List Value} {a0 : Int32} {a1 : Int32} {a2 : Nat} {r3 : Int32} {Z : gZ} {I : gI} {J : gJ} (h : (gKd Z a2).1 = 7) : g_at 144 816 L [.int a0, .int a1, .ref a2, .int r3] Z I J = (g_at 128 0 [.ref a2, .int a1, .int a0] [] Z I J).bind (fun r => g_at 144 819 L (r.1.toList ++ [.int r3]) r.2.1 r.2.2.1 r.2.2.2) := gq_callV e_144_816 rfl rfl h rfl rfl rfl rfl rfl
set_option maxRecDepth 100000 in
theorem e_144_819 : g_Pg 144 819 = ga_cmp (fun x y => decide (x = y)) 893 822 := (congrFun pg_144 819).trans rfl
theorem q_144_819 {L : List Value} {x y : Int32} {S : List Value} {Z : gZ} {I : gI} {J : gJ} : g_at 144 819 L (.int y :: .int x :: S) Z I J = if x = y then g_at 144 893 L S Z I J else g_at 144 822 L S Z I J := gq_cmp e_144_819 rfl
set_option maxRecDepth 100000 in
theorem e_144_822 : g_Pg 144 822 = ga_push (.int 0) 823 := (congrFun pg_144 822).trans rfl
theorem q_144_822 {L : List Value} {S : List Value} {Z : gZ} {I : gI} {J : gJ} : g_at 144 822 L S Z I J = g_at 144 823 L (.int 0 :: S) Z I J := gq_push e_144_822
set_option maxRecDepth 100000 in
theorem e_144_823 : g_Pg 144 823 = ga_zret := (congrFun pg_144 823).trans rfl
theorem q_144_823 {L : List Value} {x : Int32} {Z : gZ} {I : gI} {J : gJ} (h : gB01 x = true) : g_at 144 823 L [.int x] Z I J = some (some (.int x), Z, I, J) := gq_zret e_144_823 h
set_option maxRecDepth 100000 in
theorem e_144_824 : g_Pg 144 824 = ga_aload 1 825 := (congrFun pg_144 824).trans rfl
theorem q_144_824 {l0 l2 l3 : Value} {x : Nat} {S : List Value} {Z : gZ} {I : gI} {J : gJ} : g_at 144 824 [l0, .ref x, l2, l3] S Z I J = g_at 144 825 [l0, .ref x, l2, l3] (.ref x :: S) Z I J := gq_aload e_144_824 rfl
set_option maxRecDepth 100000 in
theorem e_144_825 : g_Pg 144 825 = ga_callV 6 79 0 828 := (congrFun pg_144 825).trans rfl
theorem q_144_825 {L : List Value} {a0 : Nat} {Z : gZ} {I : gI} {J : gJ} (h : (gKd Z a0).1 = 6) : g_at 144 825 L [.ref a0] Z I J = (g_at 79 0 [.ref a0, .null] [] Z I J).bind (fun r => g_at 144 828 L (r.1.toList ++ []) r.2.1 r.2.2.1 r.2.2.2) := gq_callV e_144_825 rfl rfl h rfl rfl rfl rfl rfl
set_option maxRecDepth 100000 in
theorem e_144_828 : g_Pg 144 828 = ga_aload 2 829 := (congrFun pg_144 828).trans rfl
theorem q_144_828 {l0 l1 l3 : Value} {x : Nat} {S : List Value} {Z : gZ} {I : gI} {J : gJ} : g_at 144 828 [l0, l1, .ref x, l3] S Z I J = g_at 144 829 [l0, l1, .ref x, l3] (.ref x :: S) Z I J := gq_aload e_144_828 rfl
set_option maxRecDepth 100000 in
theorem e_144_829 : g_Pg 144 829 = ga_callV 7 129 0 832 := (congrFun pg_144 829).trans rfl
theorem q_144_829 {L : List Value} {a0 : Nat} {r1 : Int32} {Z : gZ} {I : gI} {J : gJ} (h : (gKd Z a0).1 = 7) : g_at 144 829 L [.ref a0, .int r1] Z I J = (g_at 129 0 [.ref a0, .null] [] Z I J).bind (fun r => g_at 144 832 L (r.1.toList ++ [.int r1]) r.2.1 r.2.2.1 r.2.2.2) := gq_callV e_144_829 rfl rfl h rfl rfl rfl rfl rfl
set_option maxRecDepth 100000 in
theorem e_144_832 : g_Pg 144 832 = ga_cmp (fun x y => decide (x = y)) 893 835 := (congrFun pg_144 832).trans rfl
theorem q_144_832 {L : List Value} {x y : Int32} {S : List Value} {Z : gZ} {I : gI} {J : gJ} : g_at 144 832 L (.int y :: .int x :: S) Z I J = if x = y then g_at 144 893 L S Z I J else g_at 144 835 L S Z I J := gq_cmp e_144_832 rfl
set_option maxRecDepth 100000 in
theorem e_144_835 : g_Pg 144 835 = ga_push (.int 0) 836 := (congrFun pg_144 835).trans rfl
theorem q_144_835 {L : List Value} {S : List Value} {Z : gZ} {I : gI} {J : gJ} : g_at 144 835 L S Z I J = g_at 144 836 L (.int 0 :: S) Z I J := gq_push e_144_835
set_option maxRecDepth 100000 in
theorem e_144_836 : g_Pg 144 836 = ga_zret := (congrFun pg_144 836).trans rfl
theorem q_144_836 {L : List Value} {x : Int32} {Z : gZ} {I : gI} {J : gJ} (h : gB01 x = true) : g_at 144 836 L [.int x] Z I J = some (some (.int x), Z, I, J) := gq_zret e_144_836 h
set_option maxRecDepth 100000 in
theorem e_144_837 : g_Pg 144 837 = ga_aload 1 838 := (congrFun pg_144 837).trans rfl
theorem q_144_837 {l0 l2 l3 : Value} {x : Nat} {S : List Value} {Z : gZ} {I : gI} {J : gJ} : g_at 144 837 [l0, .ref x, l2, l3] S Z I J = g_at 144 838 [l0, .ref x, l2, l3] (.ref x :: S) Z I J := gq_aload e_144_837 rfl
set_option maxRecDepth 100000 in
theorem e_144_838 : g_Pg 144 838 = ga_aload 0 839 := (congrFun pg_144 838).trans rfl
theorem q_144_838 {l1 l2 l3 : Value} {x : Nat} {S : List Value} {Z : gZ} {I : gI} {J : gJ} : g_at 144 838 [.ref x, l1, l2, l3] S Z I J = g_at 144 839 [.ref x, l1, l2, l3] (.ref x :: S) Z I J := gq_aload e_144_838 rfl
set_option maxRecDepth 100000 in
theorem e_144_839 : g_Pg 144 839 = ga_iload 3 840 := (congrFun pg_144 839).trans rfl
theorem q_144_839 {l0 l1 l2 : Value} {x : Int32} {S : List Value} {Z : gZ} {I : gI} {J : gJ} : g_at 144 839 [l0, l1, l2, .int x] S Z I J = g_at 144 840 [l0, l1, l2, .int x] (.int x :: S) Z I J := gq_iload e_144_839 rfl
set_option maxRecDepth 100000 in
theorem e_144_840 : g_Pg 144 840 = ga_push (.int 1) 841 := (congrFun pg_144 840).trans rfl
theorem q_144_840 {L : List Value} {S : List Value} {Z : gZ} {I : gI} {J : gJ} : g_at 144 840 L S Z I J = g_at 144 841 L (.int 1 :: S) Z I J := gq_push e_144_840
set_option maxRecDepth 100000 in
theorem e_144_841 : g_Pg 144 841 = ga_bin (fun x y => x + y) 842 := (congrFun pg_144 841).trans rfl
theorem q_144_841 {L : List Value} {x y : Int32} {S : List Value} {Z : gZ} {I : gI} {J : gJ} : g_at 144 841 L (.int y :: .int x :: S) Z I J = g_at 144 842 L (.int (x + y) :: S) Z I J := gq_bin e_144_841
set_option maxRecDepth 100000 in
theorem e_144_842 : g_Pg 144 842 = ga_iald 843 := (congrFun pg_144 842).trans rfl
theorem q_144_842 {L : List Value} {a : Nat} {i : Int32} {S : List Value} {Z : gZ} {I : gI} {J : gJ} (h : gTg8 (gKd Z a).1 a = true) (h0 : 0 ≤ i) (h1 : i.toNatClampNeg < (gKd Z a).2) : g_at 144 842 L (.int i :: .ref a :: S) Z I J = g_at 144 843 L (.int (I a i.toNatClampNeg) :: S) Z I J := gq_iald e_144_842 h h0 h1
set_option maxRecDepth 100000 in
theorem e_144_843 : g_Pg 144 843 = ga_aload 0 844 := (congrFun pg_144 843).trans rfl
theorem q_144_843 {l1 l2 l3 : Value} {x : Nat} {S : List Value} {Z : gZ} {I : gI} {J : gJ} : g_at 144 843 [.ref x, l1, l2, l3] S Z I J = g_at 144 844 [.ref x, l1, l2, l3] (.ref x :: S) Z I J := gq_aload e_144_843 rfl
set_option maxRecDepth 100000 in
theorem e_144_844 : g_Pg 144 844 = ga_iload 3 845 := (congrFun pg_144 844).trans rfl
theorem q_144_844 {l0 l1 l2 : Value} {x : Int32} {S : List Value} {Z : gZ} {I : gI} {J : gJ} : g_at 144 844 [l0, l1, l2, .int x] S Z I J = g_at 144 845 [l0, l1, l2, .int x] (.int x :: S) Z I J := gq_iload e_144_844 rfl
set_option maxRecDepth 100000 in
theorem e_144_845 : g_Pg 144 845 = ga_push (.int 2) 846 := (congrFun pg_144 845).trans rfl
theorem q_144_845 {L : List Value} {S : List Value} {Z : gZ} {I : gI} {J : gJ} : g_at 144 845 L S Z I J = g_at 144 846 L (.int 2 :: S) Z I J := gq_push e_144_845
set_option maxRecDepth 100000 in
theorem e_144_846 : g_Pg 144 846 = ga_bin (fun x y => x + y) 847 := (congrFun pg_144 846).trans rfl
theorem q_144_846 {L : List Value} {x y : Int32} {S : List Value} {Z : gZ} {I : gI} {J : gJ} : g_at 144 846 L (.int y :: .int x :: S) Z I J = g_at 144 847 L (.int (x + y) :: S) Z I J := gq_bin e_144_846
set_option maxRecDepth 100000 in
theorem e_144_847 : g_Pg 144 847 = ga_iald 848 := (congrFun pg_144 847).trans rfl
theorem q_144_847 {L : List Value} {a : Nat} {i : Int32} {S : List Value} {Z : gZ} {I : gI} {J : gJ} (h : gTg8 (gKd Z a).1 a = true) (h0 : 0 ≤ i) (h1 : i.toNatClampNeg < (gKd Z a).2) : g_at 144 847 L (.int i :: .ref a :: S) Z I J = g_at 144 848 L (.int (I a i.toNatClampNeg) :: S) Z I J := gq_iald e_144_847 h h0 h1
set_option maxRecDepth 100000 in
theorem e_144_848 : g_Pg 144 848 = ga_callV 6 80 2 851 := (congrFun pg_144 848).trans rfl
theorem q_144_848 {L : List Value} {a0 : Int32} {a1 : Int32} {a2 : Nat} {Z : gZ} {I : gI} {J : gJ} (h : (gKd Z a2).1 = 6) : g_at 144 848 L [.int a0, .int a1, .ref a2] Z I J = (g_at 80 0 [.ref a2, .int a1, .int a0, .null, .null, .null] [] Z I J).bind (fun r => g_at 144 851 L (r.1.toList ++ []) r.2.1 r.2.2.1 r.2.2.2) := gq_callV e_144_848 rfl rfl h rfl rfl rfl rfl rfl
set_option maxRecDepth 100000 in
theorem e_144_851 : g_Pg 144 851 = ga_aload 2 852 := (congrFun pg_144 851).trans rfl
theorem q_144_851 {l0 l1 l3 : Value} {x : Nat} {S : List Value} {Z : gZ} {I : gI} {J : gJ} : g_at 144 851 [l0, l1, .ref x, l3] S Z I J = g_at 144 852 [l0, l1, .ref x, l3] (.ref x :: S) Z I J := gq_aload e_144_851 rfl
set_option maxRecDepth 100000 in
theorem e_144_852 : g_Pg 144 852 = ga_aload 0 853 := (congrFun pg_144 852).trans rfl
theorem q_144_852 {l1 l2 l3 : Value} {x : Nat} {S : List Value} {Z : gZ} {I : gI} {J : gJ} : g_at 144 852 [.ref x, l1, l2, l3] S Z I J = g_at 144 853 [.ref x, l1, l2, l3] (.ref x :: S) Z I J := gq_aload e_144_852 rfl
set_option maxRecDepth 100000 in
theorem e_144_853 : g_Pg 144 853 = ga_iload 3 854 := (congrFun pg_144 853).trans rfl
theorem q_144_853 {l0 l1 l2 : Value} {x : Int32} {S : List Value} {Z : gZ} {I : gI} {J : gJ} : g_at 144 853 [l0, l1, l2, .int x] S Z I J = g_at 144 854 [l0, l1, l2, .int x] (.int x :: S) Z I J := gq_iload e_144_853 rfl
set_option maxRecDepth 100000 in
theorem e_144_854 : g_Pg 144 854 = ga_push (.int 1) 855 := (congrFun pg_144 854).trans rfl
theorem q_144_854 {L : List Value} {S : List Value} {Z : gZ} {I : gI} {J : gJ} : g_at 144 854 L S Z I J = g_at 144 855 L (.int 1 :: S) Z I J := gq_push e_144_854
set_option maxRecDepth 100000 in
theorem e_144_855 : g_Pg 144 855 = ga_bin (fun x y => x + y) 856 := (congrFun pg_144 855).trans rfl
theorem q_144_855 {L : List Value} {x y : Int32} {S : List Value} {Z : gZ} {I : gI} {J : gJ} : g_at 144 855 L (.int y :: .int x :: S) Z I J = g_at 144 856 L (.int (x + y) :: S) Z I J := gq_bin e_144_855
set_option maxRecDepth 100000 in
theorem e_144_856 : g_Pg 144 856 = ga_iald 857 := (congrFun pg_144 856).trans rfl
theorem q_144_856 {L : List Value} {a : Nat} {i : Int32} {S : List Value} {Z : gZ} {I : gI} {J : gJ} (h : gTg8 (gKd Z a).1 a = true) (h0 : 0 ≤ i) (h1 : i.toNatClampNeg < (gKd Z a).2) : g_at 144 856 L (.int i :: .ref a :: S) Z I J = g_at 144 857 L (.int (I a i.toNatClampNeg) :: S) Z I J := gq_iald e_144_856 h h0 h1
set_option maxRecDepth 100000 in
theorem e_144_857 : g_Pg 144 857 = ga_aload 0 858 := (congrFun pg_144 857).trans rfl
theorem q_144_857 {l1 l2 l3 : Value} {x : Nat} {S : List Value} {Z : gZ} {I : gI} {J : gJ} : g_at 144 857 [.ref x, l1, l2, l3] S Z I J = g_at 144 858 [.ref x, l1, l2, l3] (.ref x :: S) Z I J := gq_aload e_144_857 rfl
set_option maxRecDepth 100000 in
theorem e_144_858 : g_Pg 144 858 = ga_iload 3 859 := (congrFun pg_144 858).trans rfl
theorem q_144_858 {l0 l1 l2 : Value} {x : Int32} {S : List Value} {Z : gZ} {I : gI} {J : gJ} : g_at 144 858 [l0, l1, l2, .int x] S Z I J = g_at 144 859 [l0, l1, l2, .int x] (.int x :: S) Z I J := gq_iload e_144_858 rfl
set_option maxRecDepth 100000 in
theorem e_144_859 : g_Pg 144 859 = ga_push (.int 2) 860 := (congrFun pg_144 859).trans rfl
theorem q_144_859 {L : List Value} {S : List Value} {Z : gZ} {I : gI} {J : gJ} : g_at 144 859 L S Z I J = g_at 144 860 L (.int 2 :: S) Z I J := gq_push e_144_859
set_option maxRecDepth 100000 in
theorem e_144_860 : g_Pg 144 860 = ga_bin (fun x y => x + y) 861 := (congrFun pg_144 860).trans rfl
theorem q_144_860 {L : List Value} {x y : Int32} {S : List Value} {Z : gZ} {I : gI} {J : gJ} : g_at 144 860 L (.int y :: .int x :: S) Z I J = g_at 144 861 L (.int (x + y) :: S) Z I J := gq_bin e_144_860
set_option maxRecDepth 100000 in
theorem e_144_861 : g_Pg 144 861 = ga_iald 862 := (congrFun pg_144 861).trans rfl
theorem q_144_861 {L : List Value} {a : Nat} {i : Int32} {S : List Value} {Z : gZ} {I : gI} {J : gJ} (h : gTg8 (gKd Z a).1 a = true) (h0 : 0 ≤ i) (h1 : i.toNatClampNeg < (gKd Z a).2) : g_at 144 861 L (.int i :: .ref a :: S) Z I J = g_at 144 862 L (.int (I a i.toNatClampNeg) :: S) Z I J := gq_iald e_144_861 h h0 h1
set_option maxRecDepth 100000 in
theorem e_144_862 : g_Pg 144 862 = ga_callV 7 131 2 865 := (congrFun pg_144 862).trans rfl
theorem q_144_862 {L : List Value} {a0 : Int32} {a1 : Int32} {a2 : Nat} {r3 : Int32} {Z : gZ} {I : gI} {J : gJ} (h : (gKd Z a2).1 = 7) : g_at 144 862 L [.int a0, .int a1, .ref a2, .int r3] Z I J = (g_at 131 0 [.ref a2, .int a1, .int a0, .null, .null] [] Z I J).bind (fun r => g_at 144 865 L (r.1.toList ++ [.int r3]) r.2.1 r.2.2.1 r.2.2.2) := gq_callV e_144_862 rfl rfl h rfl rfl rfl rfl rfl
set_option maxRecDepth 100000 in
theorem e_144_865 : g_Pg 144 865 = ga_cmp (fun x y => decide (x = y)) 893 868 := (congrFun pg_144 865).trans rfl
theorem q_144_865 {L : List Value} {x y : Int32} {S : List Value} {Z : gZ} {I : gI} {J : gJ} : g_at 144 865 L (.int y :: .int x :: S) Z I J = if x = y then g_at 144 893 L S Z I J else g_at 144 868 L S Z I J := gq_cmp e_144_865 rfl
set_option maxRecDepth 100000 in
theorem e_144_868 : g_Pg 144 868 = ga_push (.int 0) 869 := (congrFun pg_144 868).trans rfl
theorem q_144_868 {L : List Value} {S : List Value} {Z : gZ} {I : gI} {J : gJ} : g_at 144 868 L S Z I J = g_at 144 869 L (.int 0 :: S) Z I J := gq_push e_144_868
set_option maxRecDepth 100000 in
theorem e_144_869 : g_Pg 144 869 = ga_zret := (congrFun pg_144 869).trans rfl
theorem q_144_869 {L : List Value} {x : Int32} {Z : gZ} {I : gI} {J : gJ} (h : gB01 x = true) : g_at 144 869 L [.int x] Z I J = some (some (.int x), Z, I, J) := gq_zret e_144_869 h
set_option maxRecDepth 100000 in
theorem e_144_870 : g_Pg 144 870 = ga_aload 1 871 := (congrFun pg_144 870).trans rfl
theorem q_144_870 {l0 l2 l3 : Value} {x : Nat} {S : List Value} {Z : gZ} {I : gI} {J : gJ} : g_at 144 870 [l0, .ref x, l2, l3] S Z I J = g_at 144 871 [l0, .ref x, l2, l3] (.ref x :: S) Z I J := gq_aload e_144_870 rfl
set_option maxRecDepth 100000 in
theorem e_144_871 : g_Pg 144 871 = ga_aload 0 872 := (congrFun pg_144 871).trans rfl
theorem q_144_871 {l1 l2 l3 : Value} {x : Nat} {S : List Value} {Z : gZ} {I : gI} {J : gJ} : g_at 144 871 [.ref x, l1, l2, l3] S Z I J = g_at 144 872 [.ref x, l1, l2, l3] (.ref x :: S) Z I J := gq_aload e_144_871 rfl
set_option maxRecDepth 100000 in
theorem e_144_872 : g_Pg 144 872 = ga_iload 3 873 := (congrFun pg_144 872).trans rfl
theorem q_144_872 {l0 l1 l2 : Value} {x : Int32} {S : List Value} {Z : gZ} {I : gI} {J : gJ} : g_at 144 872 [l0, l1, l2, .int x] S Z I J = g_at 144 873 [l0, l1, l2, .int x] (.int x :: S) Z I J := gq_iload e_144_872 rfl
set_option maxRecDepth 100000 in
theorem e_144_873 : g_Pg 144 873 = ga_push (.int 1) 874 := (congrFun pg_144 873).trans rfl
theorem q_144_873 {L : List Value} {S : List Value} {Z : gZ} {I : gI} {J : gJ} : g_at 144 873 L S Z I J = g_at 144 874 L (.int 1 :: S) Z I J := gq_push e_144_873
set_option maxRecDepth 100000 in
theorem e_144_874 : g_Pg 144 874 = ga_bin (fun x y => x + y) 875 := (congrFun pg_144 874).trans rfl
theorem q_144_874 {L : List Value} {x y : Int32} {S : List Value} {Z : gZ} {I : gI} {J : gJ} : g_at 144 874 L (.int y :: .int x :: S) Z I J = g_at 144 875 L (.int (x + y) :: S) Z I J := gq_bin e_144_874
set_option maxRecDepth 100000 in
theorem e_144_875 : g_Pg 144 875 = ga_iald 876 := (congrFun pg_144 875).trans rfl
theorem q_144_875 {L : List Value} {a : Nat} {i : Int32} {S : List Value} {Z : gZ} {I : gI} {J : gJ} (h : gTg8 (gKd Z a).1 a = true) (h0 : 0 ≤ i) (h1 : i.toNatClampNeg < (gKd Z a).2) : g_at 144 875 L (.int i :: .ref a :: S) Z I J = g_at 144 876 L (.int (I a i.toNatClampNeg) :: S) Z I J := gq_iald e_144_875 h h0 h1
set_option maxRecDepth 100000 in
theorem e_144_876 : g_Pg 144 876 = ga_callV 6 81 1 879 := (congrFun pg_144 876).trans rfl
theorem q_144_876 {L : List Value} {a0 : Int32} {a1 : Nat} {Z : gZ} {I : gI} {J : gJ} (h : (gKd Z a1).1 = 6) : g_at 144 876 L [.int a0, .ref a1] Z I J = (g_at 81 0 [.ref a1, .int a0] [] Z I J).bind (fun r => g_at 144 879 L (r.1.toList ++ []) r.2.1 r.2.2.1 r.2.2.2) := gq_callV e_144_876 rfl rfl h rfl rfl rfl rfl rfl
set_option maxRecDepth 100000 in
theorem e_144_879 : g_Pg 144 879 = ga_aload 2 880 := (congrFun pg_144 879).trans rfl
theorem q_144_879 {l0 l1 l3 : Value} {x : Nat} {S : List Value} {Z : gZ} {I : gI} {J : gJ} : g_at 144 879 [l0, l1, .ref x, l3] S Z I J = g_at 144 880 [l0, l1, .ref x, l3] (.ref x :: S) Z I J := gq_aload e_144_879 rfl
set_option maxRecDepth 100000 in
theorem e_144_880 : g_Pg 144 880 = ga_aload 0 881 := (congrFun pg_144 880).trans rfl
theorem q_144_880 {l1 l2 l3 : Value} {x : Nat} {S : List Value} {Z : gZ} {I : gI} {J : gJ} : g_at 144 880 [.ref x, l1, l2, l3] S Z I J = g_at 144 881 [.ref x, l1, l2, l3] (.ref x :: S) Z I J := gq_aload e_144_880 rfl
set_option maxRecDepth 100000 in
theorem e_144_881 : g_Pg 144 881 = ga_iload 3 882 := (congrFun pg_144 881).trans rfl
theorem q_144_881 {l0 l1 l2 : Value} {x : Int32} {S : List Value} {Z : gZ} {I : gI} {J : gJ} : g_at 144 881 [l0, l1, l2, .int x] S Z I J = g_at 144 882 [l0, l1, l2, .int x] (.int x :: S) Z I J := gq_iload e_144_881 rfl
set_option maxRecDepth 100000 in
theorem e_144_882 : g_Pg 144 882 = ga_push (.int 1) 883 := (congrFun pg_144 882).trans rfl
theorem q_144_882 {L : List Value} {S : List Value} {Z : gZ} {I : gI} {J : gJ} : g_at 144 882 L S Z I J = g_at 144 883 L (.int 1 :: S) Z I J := gq_push e_144_882
set_option maxRecDepth 100000 in
theorem e_144_883 : g_Pg 144 883 = ga_bin (fun x y => x + y) 884 := (congrFun pg_144 883).trans rfl
theorem q_144_883 {L : List Value} {x y : Int32} {S : List Value} {Z : gZ} {I : gI} {J : gJ} : g_at 144 883 L (.int y :: .int x :: S) Z I J = g_at 144 884 L (.int (x + y) :: S) Z I J := gq_bin e_144_883
set_option maxRecDepth 100000 in
theorem e_144_884 : g_Pg 144 884 = ga_iald 885 := (congrFun pg_144 884).trans rfl
theorem q_144_884 {L : List Value} {a : Nat} {i : Int32} {S : List Value} {Z : gZ} {I : gI} {J : gJ} (h : gTg8 (gKd Z a).1 a = true) (h0 : 0 ≤ i) (h1 : i.toNatClampNeg < (gKd Z a).2) : g_at 144 884 L (.int i :: .ref a :: S) Z I J = g_at 144 885 L (.int (I a i.toNatClampNeg) :: S) Z I J := gq_iald e_144_884 h h0 h1
set_option maxRecDepth 100000 in
theorem e_144_885 : g_Pg 144 885 = ga_callV 7 132 1 888 := (congrFun pg_144 885).trans rfl
theorem q_144_885 {L : List Value} {a0 : Int32} {a1 : Nat} {r2 : Int32} {Z : gZ} {I : gI} {J : gJ} (h : (gKd Z a1).1 = 7) : g_at 144 885 L [.int a0, .ref a1, .int r2] Z I J = (g_at 132 0 [.ref a1, .int a0, .null, .null, .null] [] Z I J).bind (fun r => g_at 144 888 L (r.1.toList ++ [.int r2]) r.2.1 r.2.2.1 r.2.2.2) := gq_callV e_144_885 rfl rfl h rfl rfl rfl rfl rfl
set_option maxRecDepth 100000 in
theorem e_144_888 : g_Pg 144 888 = ga_cmp (fun x y => decide (x = y)) 893 891 := (congrFun pg_144 888).trans rfl
theorem q_144_888 {L : List Value} {x y : Int32} {S : List Value} {Z : gZ} {I : gI} {J : gJ} : g_at 144 888 L (.int y :: .int x :: S) Z I J = if x = y then g_at 144 893 L S Z I J else g_at 144 891 L S Z I J := gq_cmp e_144_888 rfl
set_option maxRecDepth 100000 in
theorem e_144_891 : g_Pg 144 891 = ga_push (.int 0) 892 := (congrFun pg_144 891).trans rfl
theorem q_144_891 {L : List Value} {S : List Value} {Z : gZ} {I : gI} {J : gJ} : g_at 144 891 L S Z I J = g_at 144 892 L (.int 0 :: S) Z I J := gq_push e_144_891
set_option maxRecDepth 100000 in
theorem e_144_892 : g_Pg 144 892 = ga_zret := (congrFun pg_144 892).trans rfl
theorem q_144_892 {L : List Value} {x : Int32} {Z : gZ} {I : gI} {J : gJ} (h : gB01 x = true) : g_at 144 892 L [.int x] Z I J = some (some (.int x), Z, I, J) := gq_zret e_144_892 h
set_option maxRecDepth 100000 in
theorem e_144_893 : g_Pg 144 893 = ga_iinc 3 5 896 := (congrFun pg_144 893).trans rfl
theorem q_144_893 {l0 l1 l2 : Value} {x : Int32} {S : List Value} {Z : gZ} {I : gI} {J : gJ} (h : gN1 l2 = true) : g_at 144 893 [l0, l1, l2, .int x] S Z I J = g_at 144 896 [l0, l1, l2, .int (x + 5)] S Z I J := gq_iinc e_144_893 rfl h rfl
set_option maxRecDepth 100000 in
theorem e_144_896 : g_Pg 144 896 = ga_goto 18 := (congrFun pg_144 896).trans rfl
theorem q_144_896 {L : List Value} {S : List Value} {Z : gZ} {I : gI} {J : gJ} : g_at 144 896 L S Z I J = g_at 144 18 L S Z I J := gq_goto e_144_896
set_option maxRecDepth 100000 in
theorem e_144_899 : g_Pg 144 899 = ga_push (.int 1) 900 := (congrFun pg_144 899).trans rfl
theorem q_144_899 {L : List Value} {S : List Value} {Z : gZ} {I : gI} {J : gJ} : g_at 144 899 L S Z I J = g_at 144 900 L (.int 1 :: S) Z I J := gq_push e_144_899
set_option maxRecDepth 100000 in
theorem e_144_900 : g_Pg 144 900 = ga_zret := (congrFun pg_144 900).trans rfl
theorem q_144_900 {L : List Value} {x : Int32} {Z : gZ} {I : gI} {J : gJ} (h : gB01 x = true) : g_at 144 900 L [.int x] Z I J = some (some (.int x), Z, I, J) := gq_zret e_144_900 h
