theorem e_0_0 : g_Pg 0 0 = ga_aload 0 1 := (congrFun pg_0 0).trans rfl
theorem q_0_0 {x : Nat} {S : List Value} {Z : gZ} {I : gI} {J : gJ} : g_at 0 0 [.ref x] S Z I J = g_at 0 1 [.ref x] (.ref x :: S) Z I J := gq_aload e_0_0 rfl
theorem e_0_1 : g_Pg 0 1 = ga_oinit 4 := (congrFun pg_0 1).trans rfl
theorem q_0_1 {L : List Value} {x : Nat} {Z : gZ} {I : gI} {J : gJ} : g_at 0 1 L [.ref x] Z I J = g_at 0 4 L [] Z I J := gq_oinit e_0_1
theorem e_0_4 : g_Pg 0 4 = ga_aload 0 5 := (congrFun pg_0 4).trans rfl
theorem q_0_4 {x : Nat} {S : List Value} {Z : gZ} {I : gI} {J : gJ} : g_at 0 4 [.ref x] S Z I J = g_at 0 5 [.ref x] (.ref x :: S) Z I J := gq_aload e_0_4 rfl
theorem e_0_5 : g_Pg 0 5 = ga_push (.int 10) 7 := (congrFun pg_0 5).trans rfl
theorem q_0_5 {L : List Value} {S : List Value} {Z : gZ} {I : gI} {J : gJ} : g_at 0 5 L S Z I J = g_at 0 7 L (.int 10 :: S) Z I J := gq_push e_0_5
theorem e_0_7 : g_Pg 0 7 = ga_newa 8 9 := (congrFun pg_0 7).trans rfl
theorem q_0_7 {L : List Value} {n : Int32} {S : List Value} {Z : gZ} {I : gI} {J : gJ} (h : Z.1 < 1000) (h0 : 0 ≤ n) (h1 : n.toNatClampNeg ≤ 1000) : g_at 0 7 L (.int n :: S) Z I J = g_at 0 9 L (.ref Z.1 :: S) (Z.1 + 1, Z.2.1 + n.toNatClampNeg, va_up Z.2.2.1 Z.1 (8, n.toNatClampNeg), va_up Z.2.2.2 Z.1 (fun _ => none)) (va_up I Z.1 (fun _ => 0)) (va_up J Z.1 (fun _ => 0)) := gq_newa e_0_7 h h0 h1
theorem e_0_9 : g_Pg 0 9 = ga_putR 0 0 12 := (congrFun pg_0 9).trans rfl
theorem q_0_9 {L : List Value} {a v : Nat} {S : List Value} {Z : gZ} {I : gI} {J : gJ} (h : (gKd Z a).1 = 0) : g_at 0 9 L (.ref v :: .ref a :: S) Z I J = g_at 0 12 L S (Z.1, Z.2.1, Z.2.2.1, va_up Z.2.2.2 a (va_up (Z.2.2.2 a) 0 (some v))) I J := gq_putR e_0_9 h
theorem e_0_12 : g_Pg 0 12 = ga_aload 0 13 := (congrFun pg_0 12).trans rfl
theorem q_0_12 {x : Nat} {S : List Value} {Z : gZ} {I : gI} {J : gJ} : g_at 0 12 [.ref x] S Z I J = g_at 0 13 [.ref x] (.ref x :: S) Z I J := gq_aload e_0_12 rfl
theorem e_0_13 : g_Pg 0 13 = ga_push (.int 10) 15 := (congrFun pg_0 13).trans rfl
theorem q_0_13 {L : List Value} {S : List Value} {Z : gZ} {I : gI} {J : gJ} : g_at 0 13 L S Z I J = g_at 0 15 L (.int 10 :: S) Z I J := gq_push e_0_13
theorem e_0_15 : g_Pg 0 15 = ga_newa 8 17 := (congrFun pg_0 15).trans rfl
theorem q_0_15 {L : List Value} {n : Int32} {S : List Value} {Z : gZ} {I : gI} {J : gJ} (h : Z.1 < 1000) (h0 : 0 ≤ n) (h1 : n.toNatClampNeg ≤ 1000) : g_at 0 15 L (.int n :: S) Z I J = g_at 0 17 L (.ref Z.1 :: S) (Z.1 + 1, Z.2.1 + n.toNatClampNeg, va_up Z.2.2.1 Z.1 (8, n.toNatClampNeg), va_up Z.2.2.2 Z.1 (fun _ => none)) (va_up I Z.1 (fun _ => 0)) (va_up J Z.1 (fun _ => 0)) := gq_newa e_0_15 h h0 h1
theorem e_0_17 : g_Pg 0 17 = ga_putR 0 1 20 := (congrFun pg_0 17).trans rfl
theorem q_0_17 {L : List Value} {a v : Nat} {S : List Value} {Z : gZ} {I : gI} {J : gJ} (h : (gKd Z a).1 = 0) : g_at 0 17 L (.ref v :: .ref a :: S) Z I J = g_at 0 20 L S (Z.1, Z.2.1, Z.2.2.1, va_up Z.2.2.2 a (va_up (Z.2.2.2 a) 1 (some v))) I J := gq_putR e_0_17 h
theorem e_0_20 : g_Pg 0 20 = ga_aload 0 21 := (congrFun pg_0 20).trans rfl
theorem q_0_20 {x : Nat} {S : List Value} {Z : gZ} {I : gI} {J : gJ} : g_at 0 20 [.ref x] S Z I J = g_at 0 21 [.ref x] (.ref x :: S) Z I J := gq_aload e_0_20 rfl
theorem e_0_21 : g_Pg 0 21 = ga_push (.int 10) 23 := (congrFun pg_0 21).trans rfl
theorem q_0_21 {L : List Value} {S : List Value} {Z : gZ} {I : gI} {J : gJ} : g_at 0 21 L S Z I J = g_at 0 23 L (.int 10 :: S) Z I J := gq_push e_0_21
theorem e_0_23 : g_Pg 0 23 = ga_newa 8 25 := (congrFun pg_0 23).trans rfl
theorem q_0_23 {L : List Value} {n : Int32} {S : List Value} {Z : gZ} {I : gI} {J : gJ} (h : Z.1 < 1000) (h0 : 0 ≤ n) (h1 : n.toNatClampNeg ≤ 1000) : g_at 0 23 L (.int n :: S) Z I J = g_at 0 25 L (.ref Z.1 :: S) (Z.1 + 1, Z.2.1 + n.toNatClampNeg, va_up Z.2.2.1 Z.1 (8, n.toNatClampNeg), va_up Z.2.2.2 Z.1 (fun _ => none)) (va_up I Z.1 (fun _ => 0)) (va_up J Z.1 (fun _ => 0)) := gq_newa e_0_23 h h0 h1
theorem e_0_25 : g_Pg 0 25 = ga_putR 0 2 28 := (congrFun pg_0 25).trans rfl
theorem q_0_25 {L : List Value} {a v : Nat} {S : List Value} {Z : gZ} {I : gI} {J : gJ} (h : (gKd Z a).1 = 0) : g_at 0 25 L (.ref v :: .ref a :: S) Z I J = g_at 0 28 L S (Z.1, Z.2.1, Z.2.2.1, va_up Z.2.2.2 a (va_up (Z.2.2.2 a) 2 (some v))) I J := gq_putR e_0_25 h
theorem e_0_28 : g_Pg 0 28 = ga_aload 0 29 := (congrFun pg_0 28).trans rfl
theorem q_0_28 {x : Nat} {S : List Value} {Z : gZ} {I : gI} {J : gJ} : g_at 0 28 [.ref x] S Z I J = g_at 0 29 [.ref x] (.ref x :: S) Z I J := gq_aload e_0_28 rfl
theorem e_0_29 : g_Pg 0 29 = ga_push (.int 10) 31 := (congrFun pg_0 29).trans rfl
theorem q_0_29 {L : List Value} {S : List Value} {Z : gZ} {I : gI} {J : gJ} : g_at 0 29 L S Z I J = g_at 0 31 L (.int 10 :: S) Z I J := gq_push e_0_29
theorem e_0_31 : g_Pg 0 31 = ga_newa 8 33 := (congrFun pg_0 31).trans rfl
theorem q_0_31 {L : List Value} {n : Int32} {S : List Value} {Z : gZ} {I : gI} {J : gJ} (h : Z.1 < 1000) (h0 : 0 ≤ n) (h1 : n.toNatClampNeg ≤ 1000) : g_at 0 31 L (.int n :: S) Z I J = g_at 0 33 L (.ref Z.1 :: S) (Z.1 + 1, Z.2.1 + n.toNatClampNeg, va_up Z.2.2.1 Z.1 (8, n.toNatClampNeg), va_up Z.2.2.2 Z.1 (fun _ => none)) (va_up I Z.1 (fun _ => 0)) (va_up J Z.1 (fun _ => 0)) := gq_newa e_0_31 h h0 h1
theorem e_0_33 : g_Pg 0 33 = ga_putR 0 3 36 := (congrFun pg_0 33).trans rfl
theorem q_0_33 {L : List Value} {a v : Nat} {S : List Value} {Z : gZ} {I : gI} {J : gJ} (h : (gKd Z a).1 = 0) : g_at 0 33 L (.ref v :: .ref a :: S) Z I J = g_at 0 36 L S (Z.1, Z.2.1, Z.2.2.1, va_up Z.2.2.2 a (va_up (Z.2.2.2 a) 3 (some v))) I J := gq_putR e_0_33 h
theorem e_0_36 : g_Pg 0 36 = ga_aload 0 37 := (congrFun pg_0 36).trans rfl
theorem q_0_36 {x : Nat} {S : List Value} {Z : gZ} {I : gI} {J : gJ} : g_at 0 36 [.ref x] S Z I J = g_at 0 37 [.ref x] (.ref x :: S) Z I J := gq_aload e_0_36 rfl
theorem e_0_37 : g_Pg 0 37 = ga_push (.int 4) 38 := (congrFun pg_0 37).trans rfl
theorem q_0_37 {L : List Value} {S : List Value} {Z : gZ} {I : gI} {J : gJ} : g_at 0 37 L S Z I J = g_at 0 38 L (.int 4 :: S) Z I J := gq_push e_0_37
theorem e_0_38 : g_Pg 0 38 = ga_callV 0 1 1 41 := (congrFun pg_0 38).trans rfl
theorem q_0_38 {L : List Value} {a0 : Int32} {a1 : Nat} {Z : gZ} {I : gI} {J : gJ} (h : (gKd Z a1).1 = 0) : g_at 0 38 L [.int a0, .ref a1] Z I J = (g_at 1 0 [.ref a1, .int a0] [] Z I J).bind (fun r => g_at 0 41 L (r.1.toList ++ []) r.2.1 r.2.2.1 r.2.2.2) := gq_callV e_0_38 rfl rfl h rfl rfl rfl rfl rfl
theorem e_0_41 : g_Pg 0 41 = ga_vret := (congrFun pg_0 41).trans rfl
theorem q_0_41 {L : List Value} {Z : gZ} {I : gI} {J : gJ} : g_at 0 41 L [] Z I J = some (none, Z, I, J) := gq_vret e_0_41
theorem e_1_0 : g_Pg 1 0 = ga_aload 0 1 := (congrFun pg_1 0).trans rfl
theorem q_1_0 {l1 : Value} {x : Nat} {S : List Value} {Z : gZ} {I : gI} {J : gJ} : g_at 1 0 [.ref x, l1] S Z I J = g_at 1 1 [.ref x, l1] (.ref x :: S) Z I J := gq_aload e_1_0 rfl
theorem e_1_1 : g_Pg 1 1 = ga_iload 1 2 := (congrFun pg_1 1).trans rfl
theorem q_1_1 {l0 : Value} {x : Int32} {S : List Value} {Z : gZ} {I : gI} {J : gJ} : g_at 1 1 [l0, .int x] S Z I J = g_at 1 2 [l0, .int x] (.int x :: S) Z I J := gq_iload e_1_1 rfl
theorem e_1_2 : g_Pg 1 2 = ga_putI 0 4 5 := (congrFun pg_1 2).trans rfl
theorem q_1_2 {L : List Value} {a : Nat} {v : Int32} {S : List Value} {Z : gZ} {I : gI} {J : gJ} (h : (gKd Z a).1 = 0) : g_at 1 2 L (.int v :: .ref a :: S) Z I J = g_at 1 5 L S Z (va_up I a (va_up (I a) 4 v)) J := gq_putI e_1_2 h
theorem e_1_5 : g_Pg 1 5 = ga_aload 0 6 := (congrFun pg_1 5).trans rfl
theorem q_1_5 {l1 : Value} {x : Nat} {S : List Value} {Z : gZ} {I : gI} {J : gJ} : g_at 1 5 [.ref x, l1] S Z I J = g_at 1 6 [.ref x, l1] (.ref x :: S) Z I J := gq_aload e_1_5 rfl
theorem e_1_6 : g_Pg 1 6 = ga_getR 0 0 9 := (congrFun pg_1 6).trans rfl
theorem q_1_6 {L : List Value} {a : Nat} {S : List Value} {Z : gZ} {I : gI} {J : gJ} (h : (gKd Z a).1 = 0) (h1 : gRs Z a 0 = true) : g_at 1 6 L (.ref a :: S) Z I J = g_at 1 9 L (.ref (gRq Z a 0) :: S) Z I J := gq_getR e_1_6 h h1
theorem e_1_9 : g_Pg 1 9 = ga_push (.int (-1)) 10 := (congrFun pg_1 9).trans rfl
theorem q_1_9 {L : List Value} {S : List Value} {Z : gZ} {I : gI} {J : gJ} : g_at 1 9 L S Z I J = g_at 1 10 L (.int (-1) :: S) Z I J := gq_push e_1_9
theorem e_1_10 : g_Pg 1 10 = ga_call 140 2 13 := (congrFun pg_1 10).trans rfl
theorem q_1_10 {L : List Value} {a0 : Int32} {a1 : Nat} {Z : gZ} {I : gI} {J : gJ} : g_at 1 10 L [.int a0, .ref a1] Z I J = (g_at 140 0 [.ref a1, .int a0, .null, .null] [] Z I J).bind (fun r => g_at 1 13 L (r.1.toList ++ []) r.2.1 r.2.2.1 r.2.2.2) := gq_call e_1_10 rfl rfl rfl rfl rfl
theorem e_1_13 : g_Pg 1 13 = ga_aload 0 14 := (congrFun pg_1 13).trans rfl
theorem q_1_13 {l1 : Value} {x : Nat} {S : List Value} {Z : gZ} {I : gI} {J : gJ} : g_at 1 13 [.ref x, l1] S Z I J = g_at 1 14 [.ref x, l1] (.ref x :: S) Z I J := gq_aload e_1_13 rfl
theorem e_1_14 : g_Pg 1 14 = ga_getR 0 1 17 := (congrFun pg_1 14).trans rfl
theorem q_1_14 {L : List Value} {a : Nat} {S : List Value} {Z : gZ} {I : gI} {J : gJ} (h : (gKd Z a).1 = 0) (h1 : gRs Z a 1 = true) : g_at 1 14 L (.ref a :: S) Z I J = g_at 1 17 L (.ref (gRq Z a 1) :: S) Z I J := gq_getR e_1_14 h h1
theorem e_1_17 : g_Pg 1 17 = ga_push (.int 0) 18 := (congrFun pg_1 17).trans rfl
theorem q_1_17 {L : List Value} {S : List Value} {Z : gZ} {I : gI} {J : gJ} : g_at 1 17 L S Z I J = g_at 1 18 L (.int 0 :: S) Z I J := gq_push e_1_17
theorem e_1_18 : g_Pg 1 18 = ga_call 140 2 21 := (congrFun pg_1 18).trans rfl
theorem q_1_18 {L : List Value} {a0 : Int32} {a1 : Nat} {Z : gZ} {I : gI} {J : gJ} : g_at 1 18 L [.int a0, .ref a1] Z I J = (g_at 140 0 [.ref a1, .int a0, .null, .null] [] Z I J).bind (fun r => g_at 1 21 L (r.1.toList ++ []) r.2.1 r.2.2.1 r.2.2.2) := gq_call e_1_18 rfl rfl rfl rfl rfl
theorem e_1_21 : g_Pg 1 21 = ga_aload 0 22 := (congrFun pg_1 21).trans rfl
theorem q_1_21 {l1 : Value} {x : Nat} {S : List Value} {Z : gZ} {I : gI} {J : gJ} : g_at 1 21 [.ref x, l1] S Z I J = g_at 1 22 [.ref x, l1] (.ref x :: S) Z I J := gq_aload e_1_21 rfl
theorem e_1_22 : g_Pg 1 22 = ga_getR 0 2 25 := (congrFun pg_1 22).trans rfl
theorem q_1_22 {L : List Value} {a : Nat} {S : List Value} {Z : gZ} {I : gI} {J : gJ} (h : (gKd Z a).1 = 0) (h1 : gRs Z a 2 = true) : g_at 1 22 L (.ref a :: S) Z I J = g_at 1 25 L (.ref (gRq Z a 2) :: S) Z I J := gq_getR e_1_22 h h1
theorem e_1_25 : g_Pg 1 25 = ga_push (.int 0) 26 := (congrFun pg_1 25).trans rfl
theorem q_1_25 {L : List Value} {S : List Value} {Z : gZ} {I : gI} {J : gJ} : g_at 1 25 L S Z I J = g_at 1 26 L (.int 0 :: S) Z I J := gq_push e_1_25
theorem e_1_26 : g_Pg 1 26 = ga_call 140 2 29 := (congrFun pg_1 26).trans rfl
theorem q_1_26 {L : List Value} {a0 : Int32} {a1 : Nat} {Z : gZ} {I : gI} {J : gJ} : g_at 1 26 L [.int a0, .ref a1] Z I J = (g_at 140 0 [.ref a1, .int a0, .null, .null] [] Z I J).bind (fun r => g_at 1 29 L (r.1.toList ++ []) r.2.1 r.2.2.1 r.2.2.2) := gq_call e_1_26 rfl rfl rfl rfl rfl
theorem e_1_29 : g_Pg 1 29 = ga_aload 0 30 := (congrFun pg_1 29).trans rfl
theorem q_1_29 {l1 : Value} {x : Nat} {S : List Value} {Z : gZ} {I : gI} {J : gJ} : g_at 1 29 [.ref x, l1] S Z I J = g_at 1 30 [.ref x, l1] (.ref x :: S) Z I J := gq_aload e_1_29 rfl
theorem e_1_30 : g_Pg 1 30 = ga_getR 0 3 33 := (congrFun pg_1 30).trans rfl
theorem q_1_30 {L : List Value} {a : Nat} {S : List Value} {Z : gZ} {I : gI} {J : gJ} (h : (gKd Z a).1 = 0) (h1 : gRs Z a 3 = true) : g_at 1 30 L (.ref a :: S) Z I J = g_at 1 33 L (.ref (gRq Z a 3) :: S) Z I J := gq_getR e_1_30 h h1
theorem e_1_33 : g_Pg 1 33 = ga_push (.int 1) 34 := (congrFun pg_1 33).trans rfl
theorem q_1_33 {L : List Value} {S : List Value} {Z : gZ} {I : gI} {J : gJ} : g_at 1 33 L S Z I J = g_at 1 34 L (.int 1 :: S) Z I J := gq_push e_1_33
theorem e_1_34 : g_Pg 1 34 = ga_call 140 2 37 := (congrFun pg_1 34).trans rfl
theorem q_1_34 {L : List Value} {a0 : Int32} {a1 : Nat} {Z : gZ} {I : gI} {J : gJ} : g_at 1 34 L [.int a0, .ref a1] Z I J = (g_at 140 0 [.ref a1, .int a0, .null, .null] [] Z I J).bind (fun r => g_at 1 37 L (r.1.toList ++ []) r.2.1 r.2.2.1 r.2.2.2) := gq_call e_1_34 rfl rfl rfl rfl rfl
theorem e_1_37 : g_Pg 1 37 = ga_aload 0 38 := (congrFun pg_1 37).trans rfl
theorem q_1_37 {l1 : Value} {x : Nat} {S : List Value} {Z : gZ} {I : gI} {J : gJ} : g_at 1 37 [.ref x, l1] S Z I J = g_at 1 38 [.ref x, l1] (.ref x :: S) Z I J := gq_aload e_1_37 rfl
theorem e_1_38 : g_Pg 1 38 = ga_push (.int 0) 39 := (congrFun pg_1 38).trans rfl
theorem q_1_38 {L : List Value} {S : List Value} {Z : gZ} {I : gI} {J : gJ} : g_at 1 38 L S Z I J = g_at 1 39 L (.int 0 :: S) Z I J := gq_push e_1_38
theorem e_1_39 : g_Pg 1 39 = ga_putI 0 5 42 := (congrFun pg_1 39).trans rfl
theorem q_1_39 {L : List Value} {a : Nat} {v : Int32} {S : List Value} {Z : gZ} {I : gI} {J : gJ} (h : (gKd Z a).1 = 0) : g_at 1 39 L (.int v :: .ref a :: S) Z I J = g_at 1 42 L S Z (va_up I a (va_up (I a) 5 v)) J := gq_putI e_1_39 h
theorem e_1_42 : g_Pg 1 42 = ga_vret := (congrFun pg_1 42).trans rfl
theorem q_1_42 {L : List Value} {Z : gZ} {I : gI} {J : gJ} : g_at 1 42 L [] Z I J = some (none, Z, I, J) := gq_vret e_1_42
theorem e_2_0 : g_Pg 2 0 = ga_aload 0 1 := (congrFun pg_2 0).trans rfl
theorem q_2_0 {l1 : Value} {x : Nat} {S : List Value} {Z : gZ} {I : gI} {J : gJ} : g_at 2 0 [.ref x, l1] S Z I J = g_at 2 1 [.ref x, l1] (.ref x :: S) Z I J := gq_aload e_2_0 rfl
theorem e_2_1 : g_Pg 2 1 = ga_aload 1 2 := (congrFun pg_2 1).trans rfl
theorem q_2_1 {l0 : Value} {x : Nat} {S : List Value} {Z : gZ} {I : gI} {J : gJ} : g_at 2 1 [l0, .ref x] S Z I J = g_at 2 2 [l0, .ref x] (.ref x :: S) Z I J := gq_aload e_2_1 rfl
theorem e_2_2 : g_Pg 2 2 = ga_getI 0 4 5 := (congrFun pg_2 2).trans rfl
theorem q_2_2 {L : List Value} {a : Nat} {S : List Value} {Z : gZ} {I : gI} {J : gJ} (h : (gKd Z a).1 = 0) : g_at 2 2 L (.ref a :: S) Z I J = g_at 2 5 L (.int (I a 4) :: S) Z I J := gq_getI e_2_2 h
theorem e_2_5 : g_Pg 2 5 = ga_putI 0 4 8 := (congrFun pg_2 5).trans rfl
theorem q_2_5 {L : List Value} {a : Nat} {v : Int32} {S : List Value} {Z : gZ} {I : gI} {J : gJ} (h : (gKd Z a).1 = 0) : g_at 2 5 L (.int v :: .ref a :: S) Z I J = g_at 2 8 L S Z (va_up I a (va_up (I a) 4 v)) J := gq_putI e_2_5 h
theorem e_2_8 : g_Pg 2 8 = ga_aload 0 9 := (congrFun pg_2 8).trans rfl
theorem q_2_8 {l1 : Value} {x : Nat} {S : List Value} {Z : gZ} {I : gI} {J : gJ} : g_at 2 8 [.ref x, l1] S Z I J = g_at 2 9 [.ref x, l1] (.ref x :: S) Z I J := gq_aload e_2_8 rfl
theorem e_2_9 : g_Pg 2 9 = ga_aload 1 10 := (congrFun pg_2 9).trans rfl
theorem q_2_9 {l0 : Value} {x : Nat} {S : List Value} {Z : gZ} {I : gI} {J : gJ} : g_at 2 9 [l0, .ref x] S Z I J = g_at 2 10 [l0, .ref x] (.ref x :: S) Z I J := gq_aload e_2_9 rfl
theorem e_2_10 : g_Pg 2 10 = ga_getI 0 5 13 := (congrFun pg_2 10).trans rfl
theorem q_2_10 {L : List Value} {a : Nat} {S : List Value} {Z : gZ} {I : gI} {J : gJ} (h : (gKd Z a).1 = 0) : g_at 2 10 L (.ref a :: S) Z I J = g_at 2 13 L (.int (I a 5) :: S) Z I J := gq_getI e_2_10 h
theorem e_2_13 : g_Pg 2 13 = ga_putI 0 5 16 := (congrFun pg_2 13).trans rfl
theorem q_2_13 {L : List Value} {a : Nat} {v : Int32} {S : List Value} {Z : gZ} {I : gI} {J : gJ} (h : (gKd Z a).1 = 0) : g_at 2 13 L (.int v :: .ref a :: S) Z I J = g_at 2 16 L S Z (va_up I a (va_up (I a) 5 v)) J := gq_putI e_2_13 h
theorem e_2_16 : g_Pg 2 16 = ga_aload 1 17 := (congrFun pg_2 16).trans rfl
theorem q_2_16 {l0 : Value} {x : Nat} {S : List Value} {Z : gZ} {I : gI} {J : gJ} : g_at 2 16 [l0, .ref x] S Z I J = g_at 2 17 [l0, .ref x] (.ref x :: S) Z I J := gq_aload e_2_16 rfl
theorem e_2_17 : g_Pg 2 17 = ga_getR 0 0 20 := (congrFun pg_2 17).trans rfl
theorem q_2_17 {L : List Value} {a : Nat} {S : List Value} {Z : gZ} {I : gI} {J : gJ} (h : (gKd Z a).1 = 0) (h1 : gRs Z a 0 = true) : g_at 2 17 L (.ref a :: S) Z I J = g_at 2 20 L (.ref (gRq Z a 0) :: S) Z I J := gq_getR e_2_17 h h1
theorem e_2_20 : g_Pg 2 20 = ga_push (.int 0) 21 := (congrFun pg_2 20).trans rfl
theorem q_2_20 {L : List Value} {S : List Value} {Z : gZ} {I : gI} {J : gJ} : g_at 2 20 L S Z I J = g_at 2 21 L (.int 0 :: S) Z I J := gq_push e_2_20
theorem e_2_21 : g_Pg 2 21 = ga_aload 0 22 := (congrFun pg_2 21).trans rfl
theorem q_2_21 {l1 : Value} {x : Nat} {S : List Value} {Z : gZ} {I : gI} {J : gJ} : g_at 2 21 [.ref x, l1] S Z I J = g_at 2 22 [.ref x, l1] (.ref x :: S) Z I J := gq_aload e_2_21 rfl
theorem e_2_22 : g_Pg 2 22 = ga_getR 0 0 25 := (congrFun pg_2 22).trans rfl
theorem q_2_22 {L : List Value} {a : Nat} {S : List Value} {Z : gZ} {I : gI} {J : gJ} (h : (gKd Z a).1 = 0) (h1 : gRs Z a 0 = true) : g_at 2 22 L (.ref a :: S) Z I J = g_at 2 25 L (.ref (gRq Z a 0) :: S) Z I J := gq_getR e_2_22 h h1
theorem e_2_25 : g_Pg 2 25 = ga_push (.int 0) 26 := (congrFun pg_2 25).trans rfl
theorem q_2_25 {L : List Value} {S : List Value} {Z : gZ} {I : gI} {J : gJ} : g_at 2 25 L S Z I J = g_at 2 26 L (.int 0 :: S) Z I J := gq_push e_2_25
theorem e_2_26 : g_Pg 2 26 = ga_push (.int 10) 28 := (congrFun pg_2 26).trans rfl
theorem q_2_26 {L : List Value} {S : List Value} {Z : gZ} {I : gI} {J : gJ} : g_at 2 26 L S Z I J = g_at 2 28 L (.int 10 :: S) Z I J := gq_push e_2_26
theorem e_2_28 : g_Pg 2 28 = ga_copy 31 := (congrFun pg_2 28).trans rfl
theorem q_2_28 {L : List Value} {a b : Nat} {Z : gZ} {I : gI} {J : gJ} (h : gKd Z a = (8, 10)) (h1 : gKd Z b = (8, 10)) : g_at 2 28 L [.int 10, .int 0, .ref a, .int 0, .ref b] Z I J = g_at 2 31 L [] Z (va_up I a (va_cpy (I b) (I a) 0 0 10)) J := gq_copy e_2_28 h h1
theorem e_2_31 : g_Pg 2 31 = ga_aload 1 32 := (congrFun pg_2 31).trans rfl
theorem q_2_31 {l0 : Value} {x : Nat} {S : List Value} {Z : gZ} {I : gI} {J : gJ} : g_at 2 31 [l0, .ref x] S Z I J = g_at 2 32 [l0, .ref x] (.ref x :: S) Z I J := gq_aload e_2_31 rfl
theorem e_2_32 : g_Pg 2 32 = ga_getR 0 1 35 := (congrFun pg_2 32).trans rfl
theorem q_2_32 {L : List Value} {a : Nat} {S : List Value} {Z : gZ} {I : gI} {J : gJ} (h : (gKd Z a).1 = 0) (h1 : gRs Z a 1 = true) : g_at 2 32 L (.ref a :: S) Z I J = g_at 2 35 L (.ref (gRq Z a 1) :: S) Z I J := gq_getR e_2_32 h h1
theorem e_2_35 : g_Pg 2 35 = ga_push (.int 0) 36 := (congrFun pg_2 35).trans rfl
theorem q_2_35 {L : List Value} {S : List Value} {Z : gZ} {I : gI} {J : gJ} : g_at 2 35 L S Z I J = g_at 2 36 L (.int 0 :: S) Z I J := gq_push e_2_35
theorem e_2_36 : g_Pg 2 36 = ga_aload 0 37 := (congrFun pg_2 36).trans rfl
theorem q_2_36 {l1 : Value} {x : Nat} {S : List Value} {Z : gZ} {I : gI} {J : gJ} : g_at 2 36 [.ref x, l1] S Z I J = g_at 2 37 [.ref x, l1] (.ref x :: S) Z I J := gq_aload e_2_36 rfl
theorem e_2_37 : g_Pg 2 37 = ga_getR 0 1 40 := (congrFun pg_2 37).trans rfl
theorem q_2_37 {L : List Value} {a : Nat} {S : List Value} {Z : gZ} {I : gI} {J : gJ} (h : (gKd Z a).1 = 0) (h1 : gRs Z a 1 = true) : g_at 2 37 L (.ref a :: S) Z I J = g_at 2 40 L (.ref (gRq Z a 1) :: S) Z I J := gq_getR e_2_37 h h1
theorem e_2_40 : g_Pg 2 40 = ga_push (.int 0) 41 := (congrFun pg_2 40).trans rfl
theorem q_2_40 {L : List Value} {S : List Value} {Z : gZ} {I : gI} {J : gJ} : g_at 2 40 L S Z I J = g_at 2 41 L (.int 0 :: S) Z I J := gq_push e_2_40
theorem e_2_41 : g_Pg 2 41 = ga_push (.int 10) 43 := (congrFun pg_2 41).trans rfl
theorem q_2_41 {L : List Value} {S : List Value} {Z : gZ} {I : gI} {J : gJ} : g_at 2 41 L S Z I J = g_at 2 43 L (.int 10 :: S) Z I J := gq_push e_2_41
theorem e_2_43 : g_Pg 2 43 = ga_copy 46 := (congrFun pg_2 43).trans rfl
theorem q_2_43 {L : List Value} {a b : Nat} {Z : gZ} {I : gI} {J : gJ} (h : gKd Z a = (8, 10)) (h1 : gKd Z b = (8, 10)) : g_at 2 43 L [.int 10, .int 0, .ref a, .int 0, .ref b] Z I J = g_at 2 46 L [] Z (va_up I a (va_cpy (I b) (I a) 0 0 10)) J := gq_copy e_2_43 h h1
theorem e_2_46 : g_Pg 2 46 = ga_aload 1 47 := (congrFun pg_2 46).trans rfl
theorem q_2_46 {l0 : Value} {x : Nat} {S : List Value} {Z : gZ} {I : gI} {J : gJ} : g_at 2 46 [l0, .ref x] S Z I J = g_at 2 47 [l0, .ref x] (.ref x :: S) Z I J := gq_aload e_2_46 rfl
theorem e_2_47 : g_Pg 2 47 = ga_getR 0 2 50 := (congrFun pg_2 47).trans rfl
theorem q_2_47 {L : List Value} {a : Nat} {S : List Value} {Z : gZ} {I : gI} {J : gJ} (h : (gKd Z a).1 = 0) (h1 : gRs Z a 2 = true) : g_at 2 47 L (.ref a :: S) Z I J = g_at 2 50 L (.ref (gRq Z a 2) :: S) Z I J := gq_getR e_2_47 h h1
theorem e_2_50 : g_Pg 2 50 = ga_push (.int 0) 51 := (congrFun pg_2 50).trans rfl
theorem q_2_50 {L : List Value} {S : List Value} {Z : gZ} {I : gI} {J : gJ} : g_at 2 50 L S Z I J = g_at 2 51 L (.int 0 :: S) Z I J := gq_push e_2_50
theorem e_2_51 : g_Pg 2 51 = ga_aload 0 52 := (congrFun pg_2 51).trans rfl
theorem q_2_51 {l1 : Value} {x : Nat} {S : List Value} {Z : gZ} {I : gI} {J : gJ} : g_at 2 51 [.ref x, l1] S Z I J = g_at 2 52 [.ref x, l1] (.ref x :: S) Z I J := gq_aload e_2_51 rfl
theorem e_2_52 : g_Pg 2 52 = ga_getR 0 2 55 := (congrFun pg_2 52).trans rfl
theorem q_2_52 {L : List Value} {a : Nat} {S : List Value} {Z : gZ} {I : gI} {J : gJ} (h : (gKd Z a).1 = 0) (h1 : gRs Z a 2 = true) : g_at 2 52 L (.ref a :: S) Z I J = g_at 2 55 L (.ref (gRq Z a 2) :: S) Z I J := gq_getR e_2_52 h h1
theorem e_2_55 : g_Pg 2 55 = ga_push (.int 0) 56 := (congrFun pg_2 55).trans rfl
theorem q_2_55 {L : List Value} {S : List Value} {Z : gZ} {I : gI} {J : gJ} : g_at 2 55 L S Z I J = g_at 2 56 L (.int 0 :: S) Z I J := gq_push e_2_55
theorem e_2_56 : g_Pg 2 56 = ga_push (.int 10) 58 := (congrFun pg_2 56).trans rfl
theorem q_2_56 {L : List Value} {S : List Value} {Z : gZ} {I : gI} {J : gJ} : g_at 2 56 L S Z I J = g_at 2 58 L (.int 10 :: S) Z I J := gq_push e_2_56
theorem e_2_58 : g_Pg 2 58 = ga_copy 61 := (congrFun pg_2 58).trans rfl
theorem q_2_58 {L : List Value} {a b : Nat} {Z : gZ} {I : gI} {J : gJ} (h : gKd Z a = (8, 10)) (h1 : gKd Z b = (8, 10)) : g_at 2 58 L [.int 10, .int 0, .ref a, .int 0, .ref b] Z I J = g_at 2 61 L [] Z (va_up I a (va_cpy (I b) (I a) 0 0 10)) J := gq_copy e_2_58 h h1
theorem e_2_61 : g_Pg 2 61 = ga_aload 1 62 := (congrFun pg_2 61).trans rfl
theorem q_2_61 {l0 : Value} {x : Nat} {S : List Value} {Z : gZ} {I : gI} {J : gJ} : g_at 2 61 [l0, .ref x] S Z I J = g_at 2 62 [l0, .ref x] (.ref x :: S) Z I J := gq_aload e_2_61 rfl
theorem e_2_62 : g_Pg 2 62 = ga_getR 0 3 65 := (congrFun pg_2 62).trans rfl
theorem q_2_62 {L : List Value} {a : Nat} {S : List Value} {Z : gZ} {I : gI} {J : gJ} (h : (gKd Z a).1 = 0) (h1 : gRs Z a 3 = true) : g_at 2 62 L (.ref a :: S) Z I J = g_at 2 65 L (.ref (gRq Z a 3) :: S) Z I J := gq_getR e_2_62 h h1
theorem e_2_65 : g_Pg 2 65 = ga_push (.int 0) 66 := (congrFun pg_2 65).trans rfl
theorem q_2_65 {L : List Value} {S : List Value} {Z : gZ} {I : gI} {J : gJ} : g_at 2 65 L S Z I J = g_at 2 66 L (.int 0 :: S) Z I J := gq_push e_2_65
theorem e_2_66 : g_Pg 2 66 = ga_aload 0 67 := (congrFun pg_2 66).trans rfl
theorem q_2_66 {l1 : Value} {x : Nat} {S : List Value} {Z : gZ} {I : gI} {J : gJ} : g_at 2 66 [.ref x, l1] S Z I J = g_at 2 67 [.ref x, l1] (.ref x :: S) Z I J := gq_aload e_2_66 rfl
theorem e_2_67 : g_Pg 2 67 = ga_getR 0 3 70 := (congrFun pg_2 67).trans rfl
theorem q_2_67 {L : List Value} {a : Nat} {S : List Value} {Z : gZ} {I : gI} {J : gJ} (h : (gKd Z a).1 = 0) (h1 : gRs Z a 3 = true) : g_at 2 67 L (.ref a :: S) Z I J = g_at 2 70 L (.ref (gRq Z a 3) :: S) Z I J := gq_getR e_2_67 h h1
theorem e_2_70 : g_Pg 2 70 = ga_push (.int 0) 71 := (congrFun pg_2 70).trans rfl
theorem q_2_70 {L : List Value} {S : List Value} {Z : gZ} {I : gI} {J : gJ} : g_at 2 70 L S Z I J = g_at 2 71 L (.int 0 :: S) Z I J := gq_push e_2_70
theorem e_2_71 : g_Pg 2 71 = ga_push (.int 10) 73 := (congrFun pg_2 71).trans rfl
theorem q_2_71 {L : List Value} {S : List Value} {Z : gZ} {I : gI} {J : gJ} : g_at 2 71 L S Z I J = g_at 2 73 L (.int 10 :: S) Z I J := gq_push e_2_71
theorem e_2_73 : g_Pg 2 73 = ga_copy 76 := (congrFun pg_2 73).trans rfl
theorem q_2_73 {L : List Value} {a b : Nat} {Z : gZ} {I : gI} {J : gJ} (h : gKd Z a = (8, 10)) (h1 : gKd Z b = (8, 10)) : g_at 2 73 L [.int 10, .int 0, .ref a, .int 0, .ref b] Z I J = g_at 2 76 L [] Z (va_up I a (va_cpy (I b) (I a) 0 0 10)) J := gq_copy e_2_73 h h1
theorem e_2_76 : g_Pg 2 76 = ga_vret := (congrFun pg_2 76).trans rfl
theorem q_2_76 {L : List Value} {Z : gZ} {I : gI} {J : gJ} : g_at 2 76 L [] Z I J = some (none, Z, I, J) := gq_vret e_2_76
theorem e_3_0 : g_Pg 3 0 = ga_iload 1 1 := (congrFun pg_3 0).trans rfl
theorem q_3_0 {l0 : Value} {x : Int32} {S : List Value} {Z : gZ} {I : gI} {J : gJ} : g_at 3 0 [l0, .int x] S Z I J = g_at 3 1 [l0, .int x] (.int x :: S) Z I J := gq_iload e_3_0 rfl
theorem e_3_1 : g_Pg 3 1 = ga_if (fun x => decide (x < 0)) 16 4 := (congrFun pg_3 1).trans rfl
theorem q_3_1 {L : List Value} {x : Int32} {S : List Value} {Z : gZ} {I : gI} {J : gJ} : g_at 3 1 L (.int x :: S) Z I J = if x < 0 then g_at 3 16 L S Z I J else g_at 3 4 L S Z I J := gq_if e_3_1 rfl
theorem e_3_4 : g_Pg 3 4 = ga_iload 1 5 := (congrFun pg_3 4).trans rfl
theorem q_3_4 {l0 : Value} {x : Int32} {S : List Value} {Z : gZ} {I : gI} {J : gJ} : g_at 3 4 [l0, .int x] S Z I J = g_at 3 5 [l0, .int x] (.int x :: S) Z I J := gq_iload e_3_4 rfl
theorem e_3_5 : g_Pg 3 5 = ga_aload 0 6 := (congrFun pg_3 5).trans rfl
theorem q_3_5 {l1 : Value} {x : Nat} {S : List Value} {Z : gZ} {I : gI} {J : gJ} : g_at 3 5 [.ref x, l1] S Z I J = g_at 3 6 [.ref x, l1] (.ref x :: S) Z I J := gq_aload e_3_5 rfl
theorem e_3_6 : g_Pg 3 6 = ga_getI 0 4 9 := (congrFun pg_3 6).trans rfl
theorem q_3_6 {L : List Value} {a : Nat} {S : List Value} {Z : gZ} {I : gI} {J : gJ} (h : (gKd Z a).1 = 0) : g_at 3 6 L (.ref a :: S) Z I J = g_at 3 9 L (.int (I a 4) :: S) Z I J := gq_getI e_3_6 h
theorem e_3_9 : g_Pg 3 9 = ga_cmp (fun x y => decide (y ≤ x)) 16 12 := (congrFun pg_3 9).trans rfl
theorem q_3_9 {L : List Value} {x y : Int32} {S : List Value} {Z : gZ} {I : gI} {J : gJ} : g_at 3 9 L (.int y :: .int x :: S) Z I J = if y ≤ x then g_at 3 16 L S Z I J else g_at 3 12 L S Z I J := gq_cmp e_3_9 rfl
theorem e_3_12 : g_Pg 3 12 = ga_push (.int 1) 13 := (congrFun pg_3 12).trans rfl
theorem q_3_12 {L : List Value} {S : List Value} {Z : gZ} {I : gI} {J : gJ} : g_at 3 12 L S Z I J = g_at 3 13 L (.int 1 :: S) Z I J := gq_push e_3_12
theorem e_3_13 : g_Pg 3 13 = ga_goto 17 := (congrFun pg_3 13).trans rfl
theorem q_3_13 {L : List Value} {S : List Value} {Z : gZ} {I : gI} {J : gJ} : g_at 3 13 L S Z I J = g_at 3 17 L S Z I J := gq_goto e_3_13
theorem e_3_16 : g_Pg 3 16 = ga_push (.int 0) 17 := (congrFun pg_3 16).trans rfl
theorem q_3_16 {L : List Value} {S : List Value} {Z : gZ} {I : gI} {J : gJ} : g_at 3 16 L S Z I J = g_at 3 17 L (.int 0 :: S) Z I J := gq_push e_3_16
theorem e_3_17 : g_Pg 3 17 = ga_zret := (congrFun pg_3 17).trans rfl
theorem q_3_17 {L : List Value} {x : Int32} {Z : gZ} {I : gI} {J : gJ} (h : gB01 x = true) : g_at 3 17 L [.int x] Z I J = some (some (.int x), Z, I, J) := gq_zret e_3_17 h
theorem e_4_0 : g_Pg 4 0 = ga_iload 1 1 := (congrFun pg_4 0).trans rfl
theorem q_4_0 {l0 l2 : Value} {x : Int32} {S : List Value} {Z : gZ} {I : gI} {J : gJ} : g_at 4 0 [l0, .int x, l2] S Z I J = g_at 4 1 [l0, .int x, l2] (.int x :: S) Z I J := gq_iload e_4_0 rfl
theorem e_4_1 : g_Pg 4 1 = ga_if (fun x => decide (x < 0)) 56 4 := (congrFun pg_4 1).trans rfl
theorem q_4_1 {L : List Value} {x : Int32} {S : List Value} {Z : gZ} {I : gI} {J : gJ} : g_at 4 1 L (.int x :: S) Z I J = if x < 0 then g_at 4 56 L S Z I J else g_at 4 4 L S Z I J := gq_if e_4_1 rfl
theorem e_4_4 : g_Pg 4 4 = ga_iload 1 5 := (congrFun pg_4 4).trans rfl
theorem q_4_4 {l0 l2 : Value} {x : Int32} {S : List Value} {Z : gZ} {I : gI} {J : gJ} : g_at 4 4 [l0, .int x, l2] S Z I J = g_at 4 5 [l0, .int x, l2] (.int x :: S) Z I J := gq_iload e_4_4 rfl
theorem e_4_5 : g_Pg 4 5 = ga_aload 0 6 := (congrFun pg_4 5).trans rfl
theorem q_4_5 {l1 l2 : Value} {x : Nat} {S : List Value} {Z : gZ} {I : gI} {J : gJ} : g_at 4 5 [.ref x, l1, l2] S Z I J = g_at 4 6 [.ref x, l1, l2] (.ref x :: S) Z I J := gq_aload e_4_5 rfl
theorem e_4_6 : g_Pg 4 6 = ga_getI 0 4 9 := (congrFun pg_4 6).trans rfl
theorem q_4_6 {L : List Value} {a : Nat} {S : List Value} {Z : gZ} {I : gI} {J : gJ} (h : (gKd Z a).1 = 0) : g_at 4 6 L (.ref a :: S) Z I J = g_at 4 9 L (.int (I a 4) :: S) Z I J := gq_getI e_4_6 h
theorem e_4_9 : g_Pg 4 9 = ga_cmp (fun x y => decide (y ≤ x)) 56 12 := (congrFun pg_4 9).trans rfl
theorem q_4_9 {L : List Value} {x y : Int32} {S : List Value} {Z : gZ} {I : gI} {J : gJ} : g_at 4 9 L (.int y :: .int x :: S) Z I J = if y ≤ x then g_at 4 56 L S Z I J else g_at 4 12 L S Z I J := gq_cmp e_4_9 rfl
theorem e_4_12 : g_Pg 4 12 = ga_aload 0 13 := (congrFun pg_4 12).trans rfl
theorem q_4_12 {l1 l2 : Value} {x : Nat} {S : List Value} {Z : gZ} {I : gI} {J : gJ} : g_at 4 12 [.ref x, l1, l2] S Z I J = g_at 4 13 [.ref x, l1, l2] (.ref x :: S) Z I J := gq_aload e_4_12 rfl
theorem e_4_13 : g_Pg 4 13 = ga_getR 0 0 16 := (congrFun pg_4 13).trans rfl
theorem q_4_13 {L : List Value} {a : Nat} {S : List Value} {Z : gZ} {I : gI} {J : gJ} (h : (gKd Z a).1 = 0) (h1 : gRs Z a 0 = true) : g_at 4 13 L (.ref a :: S) Z I J = g_at 4 16 L (.ref (gRq Z a 0) :: S) Z I J := gq_getR e_4_13 h h1
theorem e_4_16 : g_Pg 4 16 = ga_iload 1 17 := (congrFun pg_4 16).trans rfl
theorem q_4_16 {l0 l2 : Value} {x : Int32} {S : List Value} {Z : gZ} {I : gI} {J : gJ} : g_at 4 16 [l0, .int x, l2] S Z I J = g_at 4 17 [l0, .int x, l2] (.int x :: S) Z I J := gq_iload e_4_16 rfl
theorem e_4_17 : g_Pg 4 17 = ga_iald 18 := (congrFun pg_4 17).trans rfl
theorem q_4_17 {L : List Value} {a : Nat} {i : Int32} {S : List Value} {Z : gZ} {I : gI} {J : gJ} (h : gTg8 (gKd Z a).1 a = true) (h0 : 0 ≤ i) (h1 : i.toNatClampNeg < (gKd Z a).2) : g_at 4 17 L (.int i :: .ref a :: S) Z I J = g_at 4 18 L (.int (I a i.toNatClampNeg) :: S) Z I J := gq_iald e_4_17 h h0 h1
theorem e_4_18 : g_Pg 4 18 = ga_push (.int (-1)) 19 := (congrFun pg_4 18).trans rfl
theorem q_4_18 {L : List Value} {S : List Value} {Z : gZ} {I : gI} {J : gJ} : g_at 4 18 L S Z I J = g_at 4 19 L (.int (-1) :: S) Z I J := gq_push e_4_18
theorem e_4_19 : g_Pg 4 19 = ga_cmp (fun x y => decide (x = y)) 56 22 := (congrFun pg_4 19).trans rfl
theorem q_4_19 {L : List Value} {x y : Int32} {S : List Value} {Z : gZ} {I : gI} {J : gJ} : g_at 4 19 L (.int y :: .int x :: S) Z I J = if x = y then g_at 4 56 L S Z I J else g_at 4 22 L S Z I J := gq_cmp e_4_19 rfl
theorem e_4_22 : g_Pg 4 22 = ga_aload 0 23 := (congrFun pg_4 22).trans rfl
theorem q_4_22 {l1 l2 : Value} {x : Nat} {S : List Value} {Z : gZ} {I : gI} {J : gJ} : g_at 4 22 [.ref x, l1, l2] S Z I J = g_at 4 23 [.ref x, l1, l2] (.ref x :: S) Z I J := gq_aload e_4_22 rfl
theorem e_4_23 : g_Pg 4 23 = ga_getR 0 2 26 := (congrFun pg_4 23).trans rfl
theorem q_4_23 {L : List Value} {a : Nat} {S : List Value} {Z : gZ} {I : gI} {J : gJ} (h : (gKd Z a).1 = 0) (h1 : gRs Z a 2 = true) : g_at 4 23 L (.ref a :: S) Z I J = g_at 4 26 L (.ref (gRq Z a 2) :: S) Z I J := gq_getR e_4_23 h h1
theorem e_4_26 : g_Pg 4 26 = ga_iload 1 27 := (congrFun pg_4 26).trans rfl
theorem q_4_26 {l0 l2 : Value} {x : Int32} {S : List Value} {Z : gZ} {I : gI} {J : gJ} : g_at 4 26 [l0, .int x, l2] S Z I J = g_at 4 27 [l0, .int x, l2] (.int x :: S) Z I J := gq_iload e_4_26 rfl
theorem e_4_27 : g_Pg 4 27 = ga_iald 28 := (congrFun pg_4 27).trans rfl
theorem q_4_27 {L : List Value} {a : Nat} {i : Int32} {S : List Value} {Z : gZ} {I : gI} {J : gJ} (h : gTg8 (gKd Z a).1 a = true) (h0 : 0 ≤ i) (h1 : i.toNatClampNeg < (gKd Z a).2) : g_at 4 27 L (.int i :: .ref a :: S) Z I J = g_at 4 28 L (.int (I a i.toNatClampNeg) :: S) Z I J := gq_iald e_4_27 h h0 h1
theorem e_4_28 : g_Pg 4 28 = ga_push (.int 1) 29 := (congrFun pg_4 28).trans rfl
theorem q_4_28 {L : List Value} {S : List Value} {Z : gZ} {I : gI} {J : gJ} : g_at 4 28 L S Z I J = g_at 4 29 L (.int 1 :: S) Z I J := gq_push e_4_28
theorem e_4_29 : g_Pg 4 29 = ga_cmp (fun x y => decide (x = y)) 56 32 := (congrFun pg_4 29).trans rfl
theorem q_4_29 {L : List Value} {x y : Int32} {S : List Value} {Z : gZ} {I : gI} {J : gJ} : g_at 4 29 L (.int y :: .int x :: S) Z I J = if x = y then g_at 4 56 L S Z I J else g_at 4 32 L S Z I J := gq_cmp e_4_29 rfl
theorem e_4_32 : g_Pg 4 32 = ga_aload 0 33 := (congrFun pg_4 32).trans rfl
theorem q_4_32 {l1 l2 : Value} {x : Nat} {S : List Value} {Z : gZ} {I : gI} {J : gJ} : g_at 4 32 [.ref x, l1, l2] S Z I J = g_at 4 33 [.ref x, l1, l2] (.ref x :: S) Z I J := gq_aload e_4_32 rfl
theorem e_4_33 : g_Pg 4 33 = ga_getR 0 1 36 := (congrFun pg_4 33).trans rfl
theorem q_4_33 {L : List Value} {a : Nat} {S : List Value} {Z : gZ} {I : gI} {J : gJ} (h : (gKd Z a).1 = 0) (h1 : gRs Z a 1 = true) : g_at 4 33 L (.ref a :: S) Z I J = g_at 4 36 L (.ref (gRq Z a 1) :: S) Z I J := gq_getR e_4_33 h h1
theorem e_4_36 : g_Pg 4 36 = ga_iload 1 37 := (congrFun pg_4 36).trans rfl
theorem q_4_36 {l0 l2 : Value} {x : Int32} {S : List Value} {Z : gZ} {I : gI} {J : gJ} : g_at 4 36 [l0, .int x, l2] S Z I J = g_at 4 37 [l0, .int x, l2] (.int x :: S) Z I J := gq_iload e_4_36 rfl
theorem e_4_37 : g_Pg 4 37 = ga_iald 38 := (congrFun pg_4 37).trans rfl
theorem q_4_37 {L : List Value} {a : Nat} {i : Int32} {S : List Value} {Z : gZ} {I : gI} {J : gJ} (h : gTg8 (gKd Z a).1 a = true) (h0 : 0 ≤ i) (h1 : i.toNatClampNeg < (gKd Z a).2) : g_at 4 37 L (.int i :: .ref a :: S) Z I J = g_at 4 38 L (.int (I a i.toNatClampNeg) :: S) Z I J := gq_iald e_4_37 h h0 h1
theorem e_4_38 : g_Pg 4 38 = ga_iload 2 39 := (congrFun pg_4 38).trans rfl
theorem q_4_38 {l0 l1 : Value} {x : Int32} {S : List Value} {Z : gZ} {I : gI} {J : gJ} : g_at 4 38 [l0, l1, .int x] S Z I J = g_at 4 39 [l0, l1, .int x] (.int x :: S) Z I J := gq_iload e_4_38 rfl
theorem e_4_39 : g_Pg 4 39 = ga_push (.int 1) 40 := (congrFun pg_4 39).trans rfl
theorem q_4_39 {L : List Value} {S : List Value} {Z : gZ} {I : gI} {J : gJ} : g_at 4 39 L S Z I J = g_at 4 40 L (.int 1 :: S) Z I J := gq_push e_4_39
theorem e_4_40 : g_Pg 4 40 = ga_cmp (fun x y => decide (¬ x = y)) 47 43 := (congrFun pg_4 40).trans rfl
theorem q_4_40 {L : List Value} {x y : Int32} {S : List Value} {Z : gZ} {I : gI} {J : gJ} : g_at 4 40 L (.int y :: .int x :: S) Z I J = if ¬ x = y then g_at 4 47 L S Z I J else g_at 4 43 L S Z I J := gq_cmp e_4_40 rfl
theorem e_4_43 : g_Pg 4 43 = ga_push (.int 4) 44 := (congrFun pg_4 43).trans rfl
theorem q_4_43 {L : List Value} {S : List Value} {Z : gZ} {I : gI} {J : gJ} : g_at 4 43 L S Z I J = g_at 4 44 L (.int 4 :: S) Z I J := gq_push e_4_43
theorem e_4_44 : g_Pg 4 44 = ga_goto 49 := (congrFun pg_4 44).trans rfl
theorem q_4_44 {L : List Value} {S : List Value} {Z : gZ} {I : gI} {J : gJ} : g_at 4 44 L S Z I J = g_at 4 49 L S Z I J := gq_goto e_4_44
theorem e_4_47 : g_Pg 4 47 = ga_push (.int 9) 49 := (congrFun pg_4 47).trans rfl
theorem q_4_47 {L : List Value} {S : List Value} {Z : gZ} {I : gI} {J : gJ} : g_at 4 47 L S Z I J = g_at 4 49 L (.int 9 :: S) Z I J := gq_push e_4_47
theorem e_4_49 : g_Pg 4 49 = ga_cmp (fun x y => decide (y < x)) 56 52 := (congrFun pg_4 49).trans rfl
theorem q_4_49 {L : List Value} {x y : Int32} {S : List Value} {Z : gZ} {I : gI} {J : gJ} : g_at 4 49 L (.int y :: .int x :: S) Z I J = if y < x then g_at 4 56 L S Z I J else g_at 4 52 L S Z I J := gq_cmp e_4_49 rfl
theorem e_4_52 : g_Pg 4 52 = ga_push (.int 1) 53 := (congrFun pg_4 52).trans rfl
theorem q_4_52 {L : List Value} {S : List Value} {Z : gZ} {I : gI} {J : gJ} : g_at 4 52 L S Z I J = g_at 4 53 L (.int 1 :: S) Z I J := gq_push e_4_52
theorem e_4_53 : g_Pg 4 53 = ga_goto 57 := (congrFun pg_4 53).trans rfl
theorem q_4_53 {L : List Value} {S : List Value} {Z : gZ} {I : gI} {J : gJ} : g_at 4 53 L S Z I J = g_at 4 57 L S Z I J := gq_goto e_4_53
theorem e_4_56 : g_Pg 4 56 = ga_push (.int 0) 57 := (congrFun pg_4 56).trans rfl
theorem q_4_56 {L : List Value} {S : List Value} {Z : gZ} {I : gI} {J : gJ} : g_at 4 56 L S Z I J = g_at 4 57 L (.int 0 :: S) Z I J := gq_push e_4_56
theorem e_4_57 : g_Pg 4 57 = ga_zret := (congrFun pg_4 57).trans rfl
theorem q_4_57 {L : List Value} {x : Int32} {Z : gZ} {I : gI} {J : gJ} (h : gB01 x = true) : g_at 4 57 L [.int x] Z I J = some (some (.int x), Z, I, J) := gq_zret e_4_57 h
theorem e_5_0 : g_Pg 5 0 = ga_aload 0 1 := (congrFun pg_5 0).trans rfl
theorem q_5_0 {l1 l2 l3 : Value} {x : Nat} {S : List Value} {Z : gZ} {I : gI} {J : gJ} : g_at 5 0 [.ref x, l1, l2, l3] S Z I J = g_at 5 1 [.ref x, l1, l2, l3] (.ref x :: S) Z I J := gq_aload e_5_0 rfl
theorem e_5_1 : g_Pg 5 1 = ga_getR 0 2 4 := (congrFun pg_5 1).trans rfl
theorem q_5_1 {L : List Value} {a : Nat} {S : List Value} {Z : gZ} {I : gI} {J : gJ} (h : (gKd Z a).1 = 0) (h1 : gRs Z a 2 = true) : g_at 5 1 L (.ref a :: S) Z I J = g_at 5 4 L (.ref (gRq Z a 2) :: S) Z I J := gq_getR e_5_1 h h1
theorem e_5_4 : g_Pg 5 4 = ga_iload 1 5 := (congrFun pg_5 4).trans rfl
theorem q_5_4 {l0 l2 l3 : Value} {x : Int32} {S : List Value} {Z : gZ} {I : gI} {J : gJ} : g_at 5 4 [l0, .int x, l2, l3] S Z I J = g_at 5 5 [l0, .int x, l2, l3] (.int x :: S) Z I J := gq_iload e_5_4 rfl
theorem e_5_5 : g_Pg 5 5 = ga_iald 6 := (congrFun pg_5 5).trans rfl
theorem q_5_5 {L : List Value} {a : Nat} {i : Int32} {S : List Value} {Z : gZ} {I : gI} {J : gJ} (h : gTg8 (gKd Z a).1 a = true) (h0 : 0 ≤ i) (h1 : i.toNatClampNeg < (gKd Z a).2) : g_at 5 5 L (.int i :: .ref a :: S) Z I J = g_at 5 6 L (.int (I a i.toNatClampNeg) :: S) Z I J := gq_iald e_5_5 h h0 h1
theorem e_5_6 : g_Pg 5 6 = ga_push (.int 2) 7 := (congrFun pg_5 6).trans rfl
theorem q_5_6 {L : List Value} {S : List Value} {Z : gZ} {I : gI} {J : gJ} : g_at 5 6 L S Z I J = g_at 5 7 L (.int 2 :: S) Z I J := gq_push e_5_6
theorem e_5_7 : g_Pg 5 7 = ga_cmp (fun x y => decide (¬ x = y)) 21 10 := (congrFun pg_5 7).trans rfl
theorem q_5_7 {L : List Value} {x y : Int32} {S : List Value} {Z : gZ} {I : gI} {J : gJ} : g_at 5 7 L (.int y :: .int x :: S) Z I J = if ¬ x = y then g_at 5 21 L S Z I J else g_at 5 10 L S Z I J := gq_cmp e_5_7 rfl
theorem e_5_10 : g_Pg 5 10 = ga_push (.int 2) 11 := (congrFun pg_5 10).trans rfl
theorem q_5_10 {L : List Value} {S : List Value} {Z : gZ} {I : gI} {J : gJ} : g_at 5 10 L S Z I J = g_at 5 11 L (.int 2 :: S) Z I J := gq_push e_5_10
theorem e_5_11 : g_Pg 5 11 = ga_aload 0 12 := (congrFun pg_5 11).trans rfl
theorem q_5_11 {l1 l2 l3 : Value} {x : Nat} {S : List Value} {Z : gZ} {I : gI} {J : gJ} : g_at 5 11 [.ref x, l1, l2, l3] S Z I J = g_at 5 12 [.ref x, l1, l2, l3] (.ref x :: S) Z I J := gq_aload e_5_11 rfl
theorem e_5_12 : g_Pg 5 12 = ga_getR 0 3 15 := (congrFun pg_5 12).trans rfl
theorem q_5_12 {L : List Value} {a : Nat} {S : List Value} {Z : gZ} {I : gI} {J : gJ} (h : (gKd Z a).1 = 0) (h1 : gRs Z a 3 = true) : g_at 5 12 L (.ref a :: S) Z I J = g_at 5 15 L (.ref (gRq Z a 3) :: S) Z I J := gq_getR e_5_12 h h1
theorem e_5_15 : g_Pg 5 15 = ga_iload 1 16 := (congrFun pg_5 15).trans rfl
theorem q_5_15 {l0 l2 l3 : Value} {x : Int32} {S : List Value} {Z : gZ} {I : gI} {J : gJ} : g_at 5 15 [l0, .int x, l2, l3] S Z I J = g_at 5 16 [l0, .int x, l2, l3] (.int x :: S) Z I J := gq_iload e_5_15 rfl
theorem e_5_16 : g_Pg 5 16 = ga_iald 17 := (congrFun pg_5 16).trans rfl
theorem q_5_16 {L : List Value} {a : Nat} {i : Int32} {S : List Value} {Z : gZ} {I : gI} {J : gJ} (h : gTg8 (gKd Z a).1 a = true) (h0 : 0 ≤ i) (h1 : i.toNatClampNeg < (gKd Z a).2) : g_at 5 16 L (.int i :: .ref a :: S) Z I J = g_at 5 17 L (.int (I a i.toNatClampNeg) :: S) Z I J := gq_iald e_5_16 h h0 h1
theorem e_5_17 : g_Pg 5 17 = ga_bin (fun x y => x * y) 18 := (congrFun pg_5 17).trans rfl
theorem q_5_17 {L : List Value} {x y : Int32} {S : List Value} {Z : gZ} {I : gI} {J : gJ} : g_at 5 17 L (.int y :: .int x :: S) Z I J = g_at 5 18 L (.int (x * y) :: S) Z I J := gq_bin e_5_17
theorem e_5_18 : g_Pg 5 18 = ga_goto 27 := (congrFun pg_5 18).trans rfl
theorem q_5_18 {L : List Value} {S : List Value} {Z : gZ} {I : gI} {J : gJ} : g_at 5 18 L S Z I J = g_at 5 27 L S Z I J := gq_goto e_5_18
theorem e_5_21 : g_Pg 5 21 = ga_aload 0 22 := (congrFun pg_5 21).trans rfl
theorem q_5_21 {l1 l2 l3 : Value} {x : Nat} {S : List Value} {Z : gZ} {I : gI} {J : gJ} : g_at 5 21 [.ref x, l1, l2, l3] S Z I J = g_at 5 22 [.ref x, l1, l2, l3] (.ref x :: S) Z I J := gq_aload e_5_21 rfl
theorem e_5_22 : g_Pg 5 22 = ga_getR 0 3 25 := (congrFun pg_5 22).trans rfl
theorem q_5_22 {L : List Value} {a : Nat} {S : List Value} {Z : gZ} {I : gI} {J : gJ} (h : (gKd Z a).1 = 0) (h1 : gRs Z a 3 = true) : g_at 5 22 L (.ref a :: S) Z I J = g_at 5 25 L (.ref (gRq Z a 3) :: S) Z I J := gq_getR e_5_22 h h1
theorem e_5_25 : g_Pg 5 25 = ga_iload 1 26 := (congrFun pg_5 25).trans rfl
theorem q_5_25 {l0 l2 l3 : Value} {x : Int32} {S : List Value} {Z : gZ} {I : gI} {J : gJ} : g_at 5 25 [l0, .int x, l2, l3] S Z I J = g_at 5 26 [l0, .int x, l2, l3] (.int x :: S) Z I J := gq_iload e_5_25 rfl
theorem e_5_26 : g_Pg 5 26 = ga_iald 27 := (congrFun pg_5 26).trans rfl
theorem q_5_26 {L : List Value} {a : Nat} {i : Int32} {S : List Value} {Z : gZ} {I : gI} {J : gJ} (h : gTg8 (gKd Z a).1 a = true) (h0 : 0 ≤ i) (h1 : i.toNatClampNeg < (gKd Z a).2) : g_at 5 26 L (.int i :: .ref a :: S) Z I J = g_at 5 27 L (.int (I a i.toNatClampNeg) :: S) Z I J := gq_iald e_5_26 h h0 h1
theorem e_5_27 : g_Pg 5 27 = ga_istore 3 28 := (congrFun pg_5 27).trans rfl
theorem q_5_27 {l0 l1 l2 l3 : Value} {x : Int32} {S : List Value} {Z : gZ} {I : gI} {J : gJ} (h : gN1 l2 = true) : g_at 5 27 [l0, l1, l2, l3] (.int x :: S) Z I J = g_at 5 28 [l0, l1, l2, .int x] S Z I J := gq_istore e_5_27 h rfl rfl
theorem e_5_28 : g_Pg 5 28 = ga_iload 2 29 := (congrFun pg_5 28).trans rfl
theorem q_5_28 {l0 l1 l3 : Value} {x : Int32} {S : List Value} {Z : gZ} {I : gI} {J : gJ} : g_at 5 28 [l0, l1, .int x, l3] S Z I J = g_at 5 29 [l0, l1, .int x, l3] (.int x :: S) Z I J := gq_iload e_5_28 rfl
theorem e_5_29 : g_Pg 5 29 = ga_push (.int 2) 30 := (congrFun pg_5 29).trans rfl
theorem q_5_29 {L : List Value} {S : List Value} {Z : gZ} {I : gI} {J : gJ} : g_at 5 29 L S Z I J = g_at 5 30 L (.int 2 :: S) Z I J := gq_push e_5_29
theorem e_5_30 : g_Pg 5 30 = ga_cmp (fun x y => decide (¬ x = y)) 39 33 := (congrFun pg_5 30).trans rfl
theorem q_5_30 {L : List Value} {x y : Int32} {S : List Value} {Z : gZ} {I : gI} {J : gJ} : g_at 5 30 L (.int y :: .int x :: S) Z I J = if ¬ x = y then g_at 5 39 L S Z I J else g_at 5 33 L S Z I J := gq_cmp e_5_30 rfl
theorem e_5_33 : g_Pg 5 33 = ga_iload 3 34 := (congrFun pg_5 33).trans rfl
theorem q_5_33 {l0 l1 l2 : Value} {x : Int32} {S : List Value} {Z : gZ} {I : gI} {J : gJ} : g_at 5 33 [l0, l1, l2, .int x] S Z I J = g_at 5 34 [l0, l1, l2, .int x] (.int x :: S) Z I J := gq_iload e_5_33 rfl
theorem e_5_34 : g_Pg 5 34 = ga_push (.int 1) 35 := (congrFun pg_5 34).trans rfl
theorem q_5_34 {L : List Value} {S : List Value} {Z : gZ} {I : gI} {J : gJ} : g_at 5 34 L S Z I J = g_at 5 35 L (.int 1 :: S) Z I J := gq_push e_5_34
theorem e_5_35 : g_Pg 5 35 = ga_bin (fun x y => x + y) 36 := (congrFun pg_5 35).trans rfl
theorem q_5_35 {L : List Value} {x y : Int32} {S : List Value} {Z : gZ} {I : gI} {J : gJ} : g_at 5 35 L (.int y :: .int x :: S) Z I J = g_at 5 36 L (.int (x + y) :: S) Z I J := gq_bin e_5_35
theorem e_5_36 : g_Pg 5 36 = ga_goto 40 := (congrFun pg_5 36).trans rfl
theorem q_5_36 {L : List Value} {S : List Value} {Z : gZ} {I : gI} {J : gJ} : g_at 5 36 L S Z I J = g_at 5 40 L S Z I J := gq_goto e_5_36
theorem e_5_39 : g_Pg 5 39 = ga_iload 3 40 := (congrFun pg_5 39).trans rfl
theorem q_5_39 {l0 l1 l2 : Value} {x : Int32} {S : List Value} {Z : gZ} {I : gI} {J : gJ} : g_at 5 39 [l0, l1, l2, .int x] S Z I J = g_at 5 40 [l0, l1, l2, .int x] (.int x :: S) Z I J := gq_iload e_5_39 rfl
theorem e_5_40 : g_Pg 5 40 = ga_iret := (congrFun pg_5 40).trans rfl
theorem q_5_40 {L : List Value} {x : Int32} {Z : gZ} {I : gI} {J : gJ} : g_at 5 40 L [.int x] Z I J = some (some (.int x), Z, I, J) := gq_iret e_5_40
theorem e_6_0 : g_Pg 6 0 = ga_aload 0 1 := (congrFun pg_6 0).trans rfl
theorem q_6_0 {l1 l2 l3 l4 : Value} {x : Nat} {S : List Value} {Z : gZ} {I : gI} {J : gJ} : g_at 6 0 [.ref x, l1, l2, l3, l4] S Z I J = g_at 6 1 [.ref x, l1, l2, l3, l4] (.ref x :: S) Z I J := gq_aload e_6_0 rfl
theorem e_6_1 : g_Pg 6 1 = ga_getR 0 2 4 := (congrFun pg_6 1).trans rfl
theorem q_6_1 {L : List Value} {a : Nat} {S : List Value} {Z : gZ} {I : gI} {J : gJ} (h : (gKd Z a).1 = 0) (h1 : gRs Z a 2 = true) : g_at 6 1 L (.ref a :: S) Z I J = g_at 6 4 L (.ref (gRq Z a 2) :: S) Z I J := gq_getR e_6_1 h h1
theorem e_6_4 : g_Pg 6 4 = ga_iload 1 5 := (congrFun pg_6 4).trans rfl
theorem q_6_4 {l0 l2 l3 l4 : Value} {x : Int32} {S : List Value} {Z : gZ} {I : gI} {J : gJ} : g_at 6 4 [l0, .int x, l2, l3, l4] S Z I J = g_at 6 5 [l0, .int x, l2, l3, l4] (.int x :: S) Z I J := gq_iload e_6_4 rfl
theorem e_6_5 : g_Pg 6 5 = ga_iald 6 := (congrFun pg_6 5).trans rfl
theorem q_6_5 {L : List Value} {a : Nat} {i : Int32} {S : List Value} {Z : gZ} {I : gI} {J : gJ} (h : gTg8 (gKd Z a).1 a = true) (h0 : 0 ≤ i) (h1 : i.toNatClampNeg < (gKd Z a).2) : g_at 6 5 L (.int i :: .ref a :: S) Z I J = g_at 6 6 L (.int (I a i.toNatClampNeg) :: S) Z I J := gq_iald e_6_5 h h0 h1
theorem e_6_6 : g_Pg 6 6 = ga_istore 3 7 := (congrFun pg_6 6).trans rfl
theorem q_6_6 {l0 l1 l2 l3 l4 : Value} {x : Int32} {S : List Value} {Z : gZ} {I : gI} {J : gJ} (h : gN1 l2 = true) : g_at 6 6 [l0, l1, l2, l3, l4] (.int x :: S) Z I J = g_at 6 7 [l0, l1, l2, .int x, l4] S Z I J := gq_istore e_6_6 h rfl rfl
theorem e_6_7 : g_Pg 6 7 = ga_aload 0 8 := (congrFun pg_6 7).trans rfl
theorem q_6_7 {l1 l2 l3 l4 : Value} {x : Nat} {S : List Value} {Z : gZ} {I : gI} {J : gJ} : g_at 6 7 [.ref x, l1, l2, l3, l4] S Z I J = g_at 6 8 [.ref x, l1, l2, l3, l4] (.ref x :: S) Z I J := gq_aload e_6_7 rfl
theorem e_6_8 : g_Pg 6 8 = ga_getR 0 3 11 := (congrFun pg_6 8).trans rfl
theorem q_6_8 {L : List Value} {a : Nat} {S : List Value} {Z : gZ} {I : gI} {J : gJ} (h : (gKd Z a).1 = 0) (h1 : gRs Z a 3 = true) : g_at 6 8 L (.ref a :: S) Z I J = g_at 6 11 L (.ref (gRq Z a 3) :: S) Z I J := gq_getR e_6_8 h h1
theorem e_6_11 : g_Pg 6 11 = ga_iload 1 12 := (congrFun pg_6 11).trans rfl
theorem q_6_11 {l0 l2 l3 l4 : Value} {x : Int32} {S : List Value} {Z : gZ} {I : gI} {J : gJ} : g_at 6 11 [l0, .int x, l2, l3, l4] S Z I J = g_at 6 12 [l0, .int x, l2, l3, l4] (.int x :: S) Z I J := gq_iload e_6_11 rfl
theorem e_6_12 : g_Pg 6 12 = ga_iald 13 := (congrFun pg_6 12).trans rfl
theorem q_6_12 {L : List Value} {a : Nat} {i : Int32} {S : List Value} {Z : gZ} {I : gI} {J : gJ} (h : gTg8 (gKd Z a).1 a = true) (h0 : 0 ≤ i) (h1 : i.toNatClampNeg < (gKd Z a).2) : g_at 6 12 L (.int i :: .ref a :: S) Z I J = g_at 6 13 L (.int (I a i.toNatClampNeg) :: S) Z I J := gq_iald e_6_12 h h0 h1
theorem e_6_13 : g_Pg 6 13 = ga_istore 4 15 := (congrFun pg_6 13).trans rfl
theorem q_6_13 {l0 l1 l2 l3 l4 : Value} {x : Int32} {S : List Value} {Z : gZ} {I : gI} {J : gJ} (h : gN1 l3 = true) : g_at 6 13 [l0, l1, l2, l3, l4] (.int x :: S) Z I J = g_at 6 15 [l0, l1, l2, l3, .int x] S Z I J := gq_istore e_6_13 h rfl rfl
theorem e_6_15 : g_Pg 6 15 = ga_aload 0 16 := (congrFun pg_6 15).trans rfl
theorem q_6_15 {l1 l2 l3 l4 : Value} {x : Nat} {S : List Value} {Z : gZ} {I : gI} {J : gJ} : g_at 6 15 [.ref x, l1, l2, l3, l4] S Z I J = g_at 6 16 [.ref x, l1, l2, l3, l4] (.ref x :: S) Z I J := gq_aload e_6_15 rfl
theorem e_6_16 : g_Pg 6 16 = ga_getR 0 2 19 := (congrFun pg_6 16).trans rfl
theorem q_6_16 {L : List Value} {a : Nat} {S : List Value} {Z : gZ} {I : gI} {J : gJ} (h : (gKd Z a).1 = 0) (h1 : gRs Z a 2 = true) : g_at 6 16 L (.ref a :: S) Z I J = g_at 6 19 L (.ref (gRq Z a 2) :: S) Z I J := gq_getR e_6_16 h h1
theorem e_6_19 : g_Pg 6 19 = ga_iload 1 20 := (congrFun pg_6 19).trans rfl
theorem q_6_19 {l0 l2 l3 l4 : Value} {x : Int32} {S : List Value} {Z : gZ} {I : gI} {J : gJ} : g_at 6 19 [l0, .int x, l2, l3, l4] S Z I J = g_at 6 20 [l0, .int x, l2, l3, l4] (.int x :: S) Z I J := gq_iload e_6_19 rfl
theorem e_6_20 : g_Pg 6 20 = ga_aload 0 21 := (congrFun pg_6 20).trans rfl
theorem q_6_20 {l1 l2 l3 l4 : Value} {x : Nat} {S : List Value} {Z : gZ} {I : gI} {J : gJ} : g_at 6 20 [.ref x, l1, l2, l3, l4] S Z I J = g_at 6 21 [.ref x, l1, l2, l3, l4] (.ref x :: S) Z I J := gq_aload e_6_20 rfl
theorem e_6_21 : g_Pg 6 21 = ga_getR 0 2 24 := (congrFun pg_6 21).trans rfl
theorem q_6_21 {L : List Value} {a : Nat} {S : List Value} {Z : gZ} {I : gI} {J : gJ} (h : (gKd Z a).1 = 0) (h1 : gRs Z a 2 = true) : g_at 6 21 L (.ref a :: S) Z I J = g_at 6 24 L (.ref (gRq Z a 2) :: S) Z I J := gq_getR e_6_21 h h1
theorem e_6_24 : g_Pg 6 24 = ga_iload 2 25 := (congrFun pg_6 24).trans rfl
theorem q_6_24 {l0 l1 l3 l4 : Value} {x : Int32} {S : List Value} {Z : gZ} {I : gI} {J : gJ} : g_at 6 24 [l0, l1, .int x, l3, l4] S Z I J = g_at 6 25 [l0, l1, .int x, l3, l4] (.int x :: S) Z I J := gq_iload e_6_24 rfl
theorem e_6_25 : g_Pg 6 25 = ga_iald 26 := (congrFun pg_6 25).trans rfl
theorem q_6_25 {L : List Value} {a : Nat} {i : Int32} {S : List Value} {Z : gZ} {I : gI} {J : gJ} (h : gTg8 (gKd Z a).1 a = true) (h0 : 0 ≤ i) (h1 : i.toNatClampNeg < (gKd Z a).2) : g_at 6 25 L (.int i :: .ref a :: S) Z I J = g_at 6 26 L (.int (I a i.toNatClampNeg) :: S) Z I J := gq_iald e_6_25 h h0 h1
theorem e_6_26 : g_Pg 6 26 = ga_iast 27 := (congrFun pg_6 26).trans rfl
theorem q_6_26 {L : List Value} {a : Nat} {i : Int32} {v : Int32} {S : List Value} {Z : gZ} {I : gI} {J : gJ} (h : (gKd Z a).1 = 8) (h0 : 0 ≤ i) (h1 : i.toNatClampNeg < (gKd Z a).2) : g_at 6 26 L (.int v :: .int i :: .ref a :: S) Z I J = g_at 6 27 L S Z (va_up I a (va_up (I a) i.toNatClampNeg v)) J := gq_iast e_6_26 h h0 h1
theorem e_6_27 : g_Pg 6 27 = ga_aload 0 28 := (congrFun pg_6 27).trans rfl
theorem q_6_27 {l1 l2 l3 l4 : Value} {x : Nat} {S : List Value} {Z : gZ} {I : gI} {J : gJ} : g_at 6 27 [.ref x, l1, l2, l3, l4] S Z I J = g_at 6 28 [.ref x, l1, l2, l3, l4] (.ref x :: S) Z I J := gq_aload e_6_27 rfl
theorem e_6_28 : g_Pg 6 28 = ga_getR 0 3 31 := (congrFun pg_6 28).trans rfl
theorem q_6_28 {L : List Value} {a : Nat} {S : List Value} {Z : gZ} {I : gI} {J : gJ} (h : (gKd Z a).1 = 0) (h1 : gRs Z a 3 = true) : g_at 6 28 L (.ref a :: S) Z I J = g_at 6 31 L (.ref (gRq Z a 3) :: S) Z I J := gq_getR e_6_28 h h1
theorem e_6_31 : g_Pg 6 31 = ga_iload 1 32 := (congrFun pg_6 31).trans rfl
theorem q_6_31 {l0 l2 l3 l4 : Value} {x : Int32} {S : List Value} {Z : gZ} {I : gI} {J : gJ} : g_at 6 31 [l0, .int x, l2, l3, l4] S Z I J = g_at 6 32 [l0, .int x, l2, l3, l4] (.int x :: S) Z I J := gq_iload e_6_31 rfl
theorem e_6_32 : g_Pg 6 32 = ga_aload 0 33 := (congrFun pg_6 32).trans rfl
theorem q_6_32 {l1 l2 l3 l4 : Value} {x : Nat} {S : List Value} {Z : gZ} {I : gI} {J : gJ} : g_at 6 32 [.ref x, l1, l2, l3, l4] S Z I J = g_at 6 33 [.ref x, l1, l2, l3, l4] (.ref x :: S) Z I J := gq_aload e_6_32 rfl
theorem e_6_33 : g_Pg 6 33 = ga_getR 0 3 36 := (congrFun pg_6 33).trans rfl
theorem q_6_33 {L : List Value} {a : Nat} {S : List Value} {Z : gZ} {I : gI} {J : gJ} (h : (gKd Z a).1 = 0) (h1 : gRs Z a 3 = true) : g_at 6 33 L (.ref a :: S) Z I J = g_at 6 36 L (.ref (gRq Z a 3) :: S) Z I J := gq_getR e_6_33 h h1
theorem e_6_36 : g_Pg 6 36 = ga_iload 2 37 := (congrFun pg_6 36).trans rfl
theorem q_6_36 {l0 l1 l3 l4 : Value} {x : Int32} {S : List Value} {Z : gZ} {I : gI} {J : gJ} : g_at 6 36 [l0, l1, .int x, l3, l4] S Z I J = g_at 6 37 [l0, l1, .int x, l3, l4] (.int x :: S) Z I J := gq_iload e_6_36 rfl
theorem e_6_37 : g_Pg 6 37 = ga_iald 38 := (congrFun pg_6 37).trans rfl
theorem q_6_37 {L : List Value} {a : Nat} {i : Int32} {S : List Value} {Z : gZ} {I : gI} {J : gJ} (h : gTg8 (gKd Z a).1 a = true) (h0 : 0 ≤ i) (h1 : i.toNatClampNeg < (gKd Z a).2) : g_at 6 37 L (.int i :: .ref a :: S) Z I J = g_at 6 38 L (.int (I a i.toNatClampNeg) :: S) Z I J := gq_iald e_6_37 h h0 h1
theorem e_6_38 : g_Pg 6 38 = ga_iast 39 := (congrFun pg_6 38).trans rfl
theorem q_6_38 {L : List Value} {a : Nat} {i : Int32} {v : Int32} {S : List Value} {Z : gZ} {I : gI} {J : gJ} (h : (gKd Z a).1 = 8) (h0 : 0 ≤ i) (h1 : i.toNatClampNeg < (gKd Z a).2) : g_at 6 38 L (.int v :: .int i :: .ref a :: S) Z I J = g_at 6 39 L S Z (va_up I a (va_up (I a) i.toNatClampNeg v)) J := gq_iast e_6_38 h h0 h1
theorem e_6_39 : g_Pg 6 39 = ga_aload 0 40 := (congrFun pg_6 39).trans rfl
theorem q_6_39 {l1 l2 l3 l4 : Value} {x : Nat} {S : List Value} {Z : gZ} {I : gI} {J : gJ} : g_at 6 39 [.ref x, l1, l2, l3, l4] S Z I J = g_at 6 40 [.ref x, l1, l2, l3, l4] (.ref x :: S) Z I J := gq_aload e_6_39 rfl
theorem e_6_40 : g_Pg 6 40 = ga_getR 0 2 43 := (congrFun pg_6 40).trans rfl
theorem q_6_40 {L : List Value} {a : Nat} {S : List Value} {Z : gZ} {I : gI} {J : gJ} (h : (gKd Z a).1 = 0) (h1 : gRs Z a 2 = true) : g_at 6 40 L (.ref a :: S) Z I J = g_at 6 43 L (.ref (gRq Z a 2) :: S) Z I J := gq_getR e_6_40 h h1
theorem e_6_43 : g_Pg 6 43 = ga_iload 2 44 := (congrFun pg_6 43).trans rfl
theorem q_6_43 {l0 l1 l3 l4 : Value} {x : Int32} {S : List Value} {Z : gZ} {I : gI} {J : gJ} : g_at 6 43 [l0, l1, .int x, l3, l4] S Z I J = g_at 6 44 [l0, l1, .int x, l3, l4] (.int x :: S) Z I J := gq_iload e_6_43 rfl
theorem e_6_44 : g_Pg 6 44 = ga_iload 3 45 := (congrFun pg_6 44).trans rfl
theorem q_6_44 {l0 l1 l2 l4 : Value} {x : Int32} {S : List Value} {Z : gZ} {I : gI} {J : gJ} : g_at 6 44 [l0, l1, l2, .int x, l4] S Z I J = g_at 6 45 [l0, l1, l2, .int x, l4] (.int x :: S) Z I J := gq_iload e_6_44 rfl
theorem e_6_45 : g_Pg 6 45 = ga_iast 46 := (congrFun pg_6 45).trans rfl
theorem q_6_45 {L : List Value} {a : Nat} {i : Int32} {v : Int32} {S : List Value} {Z : gZ} {I : gI} {J : gJ} (h : (gKd Z a).1 = 8) (h0 : 0 ≤ i) (h1 : i.toNatClampNeg < (gKd Z a).2) : g_at 6 45 L (.int v :: .int i :: .ref a :: S) Z I J = g_at 6 46 L S Z (va_up I a (va_up (I a) i.toNatClampNeg v)) J := gq_iast e_6_45 h h0 h1
theorem e_6_46 : g_Pg 6 46 = ga_aload 0 47 := (congrFun pg_6 46).trans rfl
theorem q_6_46 {l1 l2 l3 l4 : Value} {x : Nat} {S : List Value} {Z : gZ} {I : gI} {J : gJ} : g_at 6 46 [.ref x, l1, l2, l3, l4] S Z I J = g_at 6 47 [.ref x, l1, l2, l3, l4] (.ref x :: S) Z I J := gq_aload e_6_46 rfl
theorem e_6_47 : g_Pg 6 47 = ga_getR 0 3 50 := (congrFun pg_6 47).trans rfl
theorem q_6_47 {L : List Value} {a : Nat} {S : List Value} {Z : gZ} {I : gI} {J : gJ} (h : (gKd Z a).1 = 0) (h1 : gRs Z a 3 = true) : g_at 6 47 L (.ref a :: S) Z I J = g_at 6 50 L (.ref (gRq Z a 3) :: S) Z I J := gq_getR e_6_47 h h1
theorem e_6_50 : g_Pg 6 50 = ga_iload 2 51 := (congrFun pg_6 50).trans rfl
theorem q_6_50 {l0 l1 l3 l4 : Value} {x : Int32} {S : List Value} {Z : gZ} {I : gI} {J : gJ} : g_at 6 50 [l0, l1, .int x, l3, l4] S Z I J = g_at 6 51 [l0, l1, .int x, l3, l4] (.int x :: S) Z I J := gq_iload e_6_50 rfl
theorem e_6_51 : g_Pg 6 51 = ga_iload 4 53 := (congrFun pg_6 51).trans rfl
theorem q_6_51 {l0 l1 l2 l3 : Value} {x : Int32} {S : List Value} {Z : gZ} {I : gI} {J : gJ} : g_at 6 51 [l0, l1, l2, l3, .int x] S Z I J = g_at 6 53 [l0, l1, l2, l3, .int x] (.int x :: S) Z I J := gq_iload e_6_51 rfl
theorem e_6_53 : g_Pg 6 53 = ga_iast 54 := (congrFun pg_6 53).trans rfl
theorem q_6_53 {L : List Value} {a : Nat} {i : Int32} {v : Int32} {S : List Value} {Z : gZ} {I : gI} {J : gJ} (h : (gKd Z a).1 = 8) (h0 : 0 ≤ i) (h1 : i.toNatClampNeg < (gKd Z a).2) : g_at 6 53 L (.int v :: .int i :: .ref a :: S) Z I J = g_at 6 54 L S Z (va_up I a (va_up (I a) i.toNatClampNeg v)) J := gq_iast e_6_53 h h0 h1
theorem e_6_54 : g_Pg 6 54 = ga_vret := (congrFun pg_6 54).trans rfl
theorem q_6_54 {L : List Value} {Z : gZ} {I : gI} {J : gJ} : g_at 6 54 L [] Z I J = some (none, Z, I, J) := gq_vret e_6_54
theorem e_7_0 : g_Pg 7 0 = ga_aload 0 1 := (congrFun pg_7 0).trans rfl
theorem q_7_0 {l1 l2 l3 : Value} {x : Nat} {S : List Value} {Z : gZ} {I : gI} {J : gJ} : g_at 7 0 [.ref x, l1, l2, l3] S Z I J = g_at 7 1 [.ref x, l1, l2, l3] (.ref x :: S) Z I J := gq_aload e_7_0 rfl
theorem e_7_1 : g_Pg 7 1 = ga_getR 0 0 4 := (congrFun pg_7 1).trans rfl
theorem q_7_1 {L : List Value} {a : Nat} {S : List Value} {Z : gZ} {I : gI} {J : gJ} (h : (gKd Z a).1 = 0) (h1 : gRs Z a 0 = true) : g_at 7 1 L (.ref a :: S) Z I J = g_at 7 4 L (.ref (gRq Z a 0) :: S) Z I J := gq_getR e_7_1 h h1
theorem e_7_4 : g_Pg 7 4 = ga_iload 1 5 := (congrFun pg_7 4).trans rfl
theorem q_7_4 {l0 l2 l3 : Value} {x : Int32} {S : List Value} {Z : gZ} {I : gI} {J : gJ} : g_at 7 4 [l0, .int x, l2, l3] S Z I J = g_at 7 5 [l0, .int x, l2, l3] (.int x :: S) Z I J := gq_iload e_7_4 rfl
theorem e_7_5 : g_Pg 7 5 = ga_iald 6 := (congrFun pg_7 5).trans rfl
theorem q_7_5 {L : List Value} {a : Nat} {i : Int32} {S : List Value} {Z : gZ} {I : gI} {J : gJ} (h : gTg8 (gKd Z a).1 a = true) (h0 : 0 ≤ i) (h1 : i.toNatClampNeg < (gKd Z a).2) : g_at 7 5 L (.int i :: .ref a :: S) Z I J = g_at 7 6 L (.int (I a i.toNatClampNeg) :: S) Z I J := gq_iald e_7_5 h h0 h1
theorem e_7_6 : g_Pg 7 6 = ga_istore 2 7 := (congrFun pg_7 6).trans rfl
theorem q_7_6 {l0 l1 l2 l3 : Value} {x : Int32} {S : List Value} {Z : gZ} {I : gI} {J : gJ} (h : gN1 l1 = true) : g_at 7 6 [l0, l1, l2, l3] (.int x :: S) Z I J = g_at 7 7 [l0, l1, .int x, l3] S Z I J := gq_istore e_7_6 h rfl rfl
theorem e_7_7 : g_Pg 7 7 = ga_iload 2 8 := (congrFun pg_7 7).trans rfl
theorem q_7_7 {l0 l1 l3 : Value} {x : Int32} {S : List Value} {Z : gZ} {I : gI} {J : gJ} : g_at 7 7 [l0, l1, .int x, l3] S Z I J = g_at 7 8 [l0, l1, .int x, l3] (.int x :: S) Z I J := gq_iload e_7_7 rfl
theorem e_7_8 : g_Pg 7 8 = ga_push (.int (-1)) 9 := (congrFun pg_7 8).trans rfl
theorem q_7_8 {L : List Value} {S : List Value} {Z : gZ} {I : gI} {J : gJ} : g_at 7 8 L S Z I J = g_at 7 9 L (.int (-1) :: S) Z I J := gq_push e_7_8
theorem e_7_9 : g_Pg 7 9 = ga_cmp (fun x y => decide (¬ x = y)) 13 12 := (congrFun pg_7 9).trans rfl
theorem q_7_9 {L : List Value} {x y : Int32} {S : List Value} {Z : gZ} {I : gI} {J : gJ} : g_at 7 9 L (.int y :: .int x :: S) Z I J = if ¬ x = y then g_at 7 13 L S Z I J else g_at 7 12 L S Z I J := gq_cmp e_7_9 rfl
theorem e_7_12 : g_Pg 7 12 = ga_vret := (congrFun pg_7 12).trans rfl
theorem q_7_12 {L : List Value} {Z : gZ} {I : gI} {J : gJ} : g_at 7 12 L [] Z I J = some (none, Z, I, J) := gq_vret e_7_12
theorem e_7_13 : g_Pg 7 13 = ga_push (.int 0) 14 := (congrFun pg_7 13).trans rfl
theorem q_7_13 {L : List Value} {S : List Value} {Z : gZ} {I : gI} {J : gJ} : g_at 7 13 L S Z I J = g_at 7 14 L (.int 0 :: S) Z I J := gq_push e_7_13
theorem e_7_14 : g_Pg 7 14 = ga_istore 3 15 := (congrFun pg_7 14).trans rfl
theorem q_7_14 {l0 l1 l2 l3 : Value} {x : Int32} {S : List Value} {Z : gZ} {I : gI} {J : gJ} (h : gN1 l2 = true) : g_at 7 14 [l0, l1, l2, l3] (.int x :: S) Z I J = g_at 7 15 [l0, l1, l2, .int x] S Z I J := gq_istore e_7_14 h rfl rfl
theorem e_7_15 : g_Pg 7 15 = ga_iload 3 16 := (congrFun pg_7 15).trans rfl
theorem q_7_15 {l0 l1 l2 : Value} {x : Int32} {S : List Value} {Z : gZ} {I : gI} {J : gJ} : g_at 7 15 [l0, l1, l2, .int x] S Z I J = g_at 7 16 [l0, l1, l2, .int x] (.int x :: S) Z I J := gq_iload e_7_15 rfl
theorem e_7_16 : g_Pg 7 16 = ga_aload 0 17 := (congrFun pg_7 16).trans rfl
theorem q_7_16 {l1 l2 l3 : Value} {x : Nat} {S : List Value} {Z : gZ} {I : gI} {J : gJ} : g_at 7 16 [.ref x, l1, l2, l3] S Z I J = g_at 7 17 [.ref x, l1, l2, l3] (.ref x :: S) Z I J := gq_aload e_7_16 rfl
theorem e_7_17 : g_Pg 7 17 = ga_getI 0 4 20 := (congrFun pg_7 17).trans rfl
theorem q_7_17 {L : List Value} {a : Nat} {S : List Value} {Z : gZ} {I : gI} {J : gJ} (h : (gKd Z a).1 = 0) : g_at 7 17 L (.ref a :: S) Z I J = g_at 7 20 L (.int (I a 4) :: S) Z I J := gq_getI e_7_17 h
theorem e_7_20 : g_Pg 7 20 = ga_cmp (fun x y => decide (y ≤ x)) 66 23 := (congrFun pg_7 20).trans rfl
theorem q_7_20 {L : List Value} {x y : Int32} {S : List Value} {Z : gZ} {I : gI} {J : gJ} : g_at 7 20 L (.int y :: .int x :: S) Z I J = if y ≤ x then g_at 7 66 L S Z I J else g_at 7 23 L S Z I J := gq_cmp e_7_20 rfl
theorem e_7_23 : g_Pg 7 23 = ga_aload 0 24 := (congrFun pg_7 23).trans rfl
theorem q_7_23 {l1 l2 l3 : Value} {x : Nat} {S : List Value} {Z : gZ} {I : gI} {J : gJ} : g_at 7 23 [.ref x, l1, l2, l3] S Z I J = g_at 7 24 [.ref x, l1, l2, l3] (.ref x :: S) Z I J := gq_aload e_7_23 rfl
theorem e_7_24 : g_Pg 7 24 = ga_getR 0 0 27 := (congrFun pg_7 24).trans rfl
theorem q_7_24 {L : List Value} {a : Nat} {S : List Value} {Z : gZ} {I : gI} {J : gJ} (h : (gKd Z a).1 = 0) (h1 : gRs Z a 0 = true) : g_at 7 24 L (.ref a :: S) Z I J = g_at 7 27 L (.ref (gRq Z a 0) :: S) Z I J := gq_getR e_7_24 h h1
theorem e_7_27 : g_Pg 7 27 = ga_iload 3 28 := (congrFun pg_7 27).trans rfl
theorem q_7_27 {l0 l1 l2 : Value} {x : Int32} {S : List Value} {Z : gZ} {I : gI} {J : gJ} : g_at 7 27 [l0, l1, l2, .int x] S Z I J = g_at 7 28 [l0, l1, l2, .int x] (.int x :: S) Z I J := gq_iload e_7_27 rfl
theorem e_7_28 : g_Pg 7 28 = ga_iald 29 := (congrFun pg_7 28).trans rfl
theorem q_7_28 {L : List Value} {a : Nat} {i : Int32} {S : List Value} {Z : gZ} {I : gI} {J : gJ} (h : gTg8 (gKd Z a).1 a = true) (h0 : 0 ≤ i) (h1 : i.toNatClampNeg < (gKd Z a).2) : g_at 7 28 L (.int i :: .ref a :: S) Z I J = g_at 7 29 L (.int (I a i.toNatClampNeg) :: S) Z I J := gq_iald e_7_28 h h0 h1
theorem e_7_29 : g_Pg 7 29 = ga_iload 1 30 := (congrFun pg_7 29).trans rfl
theorem q_7_29 {l0 l2 l3 : Value} {x : Int32} {S : List Value} {Z : gZ} {I : gI} {J : gJ} : g_at 7 29 [l0, .int x, l2, l3] S Z I J = g_at 7 30 [l0, .int x, l2, l3] (.int x :: S) Z I J := gq_iload e_7_29 rfl
theorem e_7_30 : g_Pg 7 30 = ga_cmp (fun x y => decide (¬ x = y)) 60 33 := (congrFun pg_7 30).trans rfl
theorem q_7_30 {L : List Value} {x y : Int32} {S : List Value} {Z : gZ} {I : gI} {J : gJ} : g_at 7 30 L (.int y :: .int x :: S) Z I J = if ¬ x = y then g_at 7 60 L S Z I J else g_at 7 33 L S Z I J := gq_cmp e_7_30 rfl
theorem e_7_33 : g_Pg 7 33 = ga_iload 3 34 := (congrFun pg_7 33).trans rfl
theorem q_7_33 {l0 l1 l2 : Value} {x : Int32} {S : List Value} {Z : gZ} {I : gI} {J : gJ} : g_at 7 33 [l0, l1, l2, .int x] S Z I J = g_at 7 34 [l0, l1, l2, .int x] (.int x :: S) Z I J := gq_iload e_7_33 rfl
theorem e_7_34 : g_Pg 7 34 = ga_iload 2 35 := (congrFun pg_7 34).trans rfl
theorem q_7_34 {l0 l1 l3 : Value} {x : Int32} {S : List Value} {Z : gZ} {I : gI} {J : gJ} : g_at 7 34 [l0, l1, .int x, l3] S Z I J = g_at 7 35 [l0, l1, .int x, l3] (.int x :: S) Z I J := gq_iload e_7_34 rfl
theorem e_7_35 : g_Pg 7 35 = ga_cmp (fun x y => decide (x = y)) 60 38 := (congrFun pg_7 35).trans rfl
theorem q_7_35 {L : List Value} {x y : Int32} {S : List Value} {Z : gZ} {I : gI} {J : gJ} : g_at 7 35 L (.int y :: .int x :: S) Z I J = if x = y then g_at 7 60 L S Z I J else g_at 7 38 L S Z I J := gq_cmp e_7_35 rfl
theorem e_7_38 : g_Pg 7 38 = ga_aload 0 39 := (congrFun pg_7 38).trans rfl
theorem q_7_38 {l1 l2 l3 : Value} {x : Nat} {S : List Value} {Z : gZ} {I : gI} {J : gJ} : g_at 7 38 [.ref x, l1, l2, l3] S Z I J = g_at 7 39 [.ref x, l1, l2, l3] (.ref x :: S) Z I J := gq_aload e_7_38 rfl
theorem e_7_39 : g_Pg 7 39 = ga_getR 0 0 42 := (congrFun pg_7 39).trans rfl
theorem q_7_39 {L : List Value} {a : Nat} {S : List Value} {Z : gZ} {I : gI} {J : gJ} (h : (gKd Z a).1 = 0) (h1 : gRs Z a 0 = true) : g_at 7 39 L (.ref a :: S) Z I J = g_at 7 42 L (.ref (gRq Z a 0) :: S) Z I J := gq_getR e_7_39 h h1
theorem e_7_42 : g_Pg 7 42 = ga_iload 3 43 := (congrFun pg_7 42).trans rfl
theorem q_7_42 {l0 l1 l2 : Value} {x : Int32} {S : List Value} {Z : gZ} {I : gI} {J : gJ} : g_at 7 42 [l0, l1, l2, .int x] S Z I J = g_at 7 43 [l0, l1, l2, .int x] (.int x :: S) Z I J := gq_iload e_7_42 rfl
theorem e_7_43 : g_Pg 7 43 = ga_iload 2 44 := (congrFun pg_7 43).trans rfl
theorem q_7_43 {l0 l1 l3 : Value} {x : Int32} {S : List Value} {Z : gZ} {I : gI} {J : gJ} : g_at 7 43 [l0, l1, .int x, l3] S Z I J = g_at 7 44 [l0, l1, .int x, l3] (.int x :: S) Z I J := gq_iload e_7_43 rfl
theorem e_7_44 : g_Pg 7 44 = ga_iast 45 := (congrFun pg_7 44).trans rfl
theorem q_7_44 {L : List Value} {a : Nat} {i : Int32} {v : Int32} {S : List Value} {Z : gZ} {I : gI} {J : gJ} (h : (gKd Z a).1 = 8) (h0 : 0 ≤ i) (h1 : i.toNatClampNeg < (gKd Z a).2) : g_at 7 44 L (.int v :: .int i :: .ref a :: S) Z I J = g_at 7 45 L S Z (va_up I a (va_up (I a) i.toNatClampNeg v)) J := gq_iast e_7_44 h h0 h1
theorem e_7_45 : g_Pg 7 45 = ga_aload 0 46 := (congrFun pg_7 45).trans rfl
theorem q_7_45 {l1 l2 l3 : Value} {x : Nat} {S : List Value} {Z : gZ} {I : gI} {J : gJ} : g_at 7 45 [.ref x, l1, l2, l3] S Z I J = g_at 7 46 [.ref x, l1, l2, l3] (.ref x :: S) Z I J := gq_aload e_7_45 rfl
theorem e_7_46 : g_Pg 7 46 = ga_getR 0 1 49 := (congrFun pg_7 46).trans rfl
theorem q_7_46 {L : List Value} {a : Nat} {S : List Value} {Z : gZ} {I : gI} {J : gJ} (h : (gKd Z a).1 = 0) (h1 : gRs Z a 1 = true) : g_at 7 46 L (.ref a :: S) Z I J = g_at 7 49 L (.ref (gRq Z a 1) :: S) Z I J := gq_getR e_7_46 h h1
theorem e_7_49 : g_Pg 7 49 = ga_iload 3 50 := (congrFun pg_7 49).trans rfl
theorem q_7_49 {l0 l1 l2 : Value} {x : Int32} {S : List Value} {Z : gZ} {I : gI} {J : gJ} : g_at 7 49 [l0, l1, l2, .int x] S Z I J = g_at 7 50 [l0, l1, l2, .int x] (.int x :: S) Z I J := gq_iload e_7_49 rfl
theorem e_7_50 : g_Pg 7 50 = ga_dup2 51 := (congrFun pg_7 50).trans rfl
theorem q_7_50 {L : List Value} {x : Nat} {y : Int32} {S : List Value} {Z : gZ} {I : gI} {J : gJ} : g_at 7 50 L (.int y :: .ref x :: S) Z I J = g_at 7 51 L (.int y :: .ref x :: .int y :: .ref x :: S) Z I J := gq_dup2 e_7_50
theorem e_7_51 : g_Pg 7 51 = ga_iald 52 := (congrFun pg_7 51).trans rfl
theorem q_7_51 {L : List Value} {a : Nat} {i : Int32} {S : List Value} {Z : gZ} {I : gI} {J : gJ} (h : gTg8 (gKd Z a).1 a = true) (h0 : 0 ≤ i) (h1 : i.toNatClampNeg < (gKd Z a).2) : g_at 7 51 L (.int i :: .ref a :: S) Z I J = g_at 7 52 L (.int (I a i.toNatClampNeg) :: S) Z I J := gq_iald e_7_51 h h0 h1
theorem e_7_52 : g_Pg 7 52 = ga_aload 0 53 := (congrFun pg_7 52).trans rfl
theorem q_7_52 {l1 l2 l3 : Value} {x : Nat} {S : List Value} {Z : gZ} {I : gI} {J : gJ} : g_at 7 52 [.ref x, l1, l2, l3] S Z I J = g_at 7 53 [.ref x, l1, l2, l3] (.ref x :: S) Z I J := gq_aload e_7_52 rfl
theorem e_7_53 : g_Pg 7 53 = ga_getR 0 1 56 := (congrFun pg_7 53).trans rfl
theorem q_7_53 {L : List Value} {a : Nat} {S : List Value} {Z : gZ} {I : gI} {J : gJ} (h : (gKd Z a).1 = 0) (h1 : gRs Z a 1 = true) : g_at 7 53 L (.ref a :: S) Z I J = g_at 7 56 L (.ref (gRq Z a 1) :: S) Z I J := gq_getR e_7_53 h h1
theorem e_7_56 : g_Pg 7 56 = ga_iload 1 57 := (congrFun pg_7 56).trans rfl
theorem q_7_56 {l0 l2 l3 : Value} {x : Int32} {S : List Value} {Z : gZ} {I : gI} {J : gJ} : g_at 7 56 [l0, .int x, l2, l3] S Z I J = g_at 7 57 [l0, .int x, l2, l3] (.int x :: S) Z I J := gq_iload e_7_56 rfl
theorem e_7_57 : g_Pg 7 57 = ga_iald 58 := (congrFun pg_7 57).trans rfl
theorem q_7_57 {L : List Value} {a : Nat} {i : Int32} {S : List Value} {Z : gZ} {I : gI} {J : gJ} (h : gTg8 (gKd Z a).1 a = true) (h0 : 0 ≤ i) (h1 : i.toNatClampNeg < (gKd Z a).2) : g_at 7 57 L (.int i :: .ref a :: S) Z I J = g_at 7 58 L (.int (I a i.toNatClampNeg) :: S) Z I J := gq_iald e_7_57 h h0 h1
theorem e_7_58 : g_Pg 7 58 = ga_bin (fun x y => x + y) 59 := (congrFun pg_7 58).trans rfl
theorem q_7_58 {L : List Value} {x y : Int32} {S : List Value} {Z : gZ} {I : gI} {J : gJ} : g_at 7 58 L (.int y :: .int x :: S) Z I J = g_at 7 59 L (.int (x + y) :: S) Z I J := gq_bin e_7_58
theorem e_7_59 : g_Pg 7 59 = ga_iast 60 := (congrFun pg_7 59).trans rfl
theorem q_7_59 {L : List Value} {a : Nat} {i : Int32} {v : Int32} {S : List Value} {Z : gZ} {I : gI} {J : gJ} (h : (gKd Z a).1 = 8) (h0 : 0 ≤ i) (h1 : i.toNatClampNeg < (gKd Z a).2) : g_at 7 59 L (.int v :: .int i :: .ref a :: S) Z I J = g_at 7 60 L S Z (va_up I a (va_up (I a) i.toNatClampNeg v)) J := gq_iast e_7_59 h h0 h1
theorem e_7_60 : g_Pg 7 60 = ga_iinc 3 1 63 := (congrFun pg_7 60).trans rfl
theorem q_7_60 {l0 l1 l2 : Value} {x : Int32} {S : List Value} {Z : gZ} {I : gI} {J : gJ} (h : gN1 l2 = true) : g_at 7 60 [l0, l1, l2, .int x] S Z I J = g_at 7 63 [l0, l1, l2, .int (x + 1)] S Z I J := gq_iinc e_7_60 rfl h rfl
theorem e_7_63 : g_Pg 7 63 = ga_goto 15 := (congrFun pg_7 63).trans rfl
theorem q_7_63 {L : List Value} {S : List Value} {Z : gZ} {I : gI} {J : gJ} : g_at 7 63 L S Z I J = g_at 7 15 L S Z I J := gq_goto e_7_63
theorem e_7_66 : g_Pg 7 66 = ga_vret := (congrFun pg_7 66).trans rfl
theorem q_7_66 {L : List Value} {Z : gZ} {I : gI} {J : gJ} : g_at 7 66 L [] Z I J = some (none, Z, I, J) := gq_vret e_7_66
theorem e_8_0 : g_Pg 8 0 = ga_aload 0 1 := (congrFun pg_8 0).trans rfl
theorem q_8_0 {x : Nat} {S : List Value} {Z : gZ} {I : gI} {J : gJ} : g_at 8 0 [.ref x] S Z I J = g_at 8 1 [.ref x] (.ref x :: S) Z I J := gq_aload e_8_0 rfl
theorem e_8_1 : g_Pg 8 1 = ga_oinit 4 := (congrFun pg_8 1).trans rfl
theorem q_8_1 {L : List Value} {x : Nat} {Z : gZ} {I : gI} {J : gJ} : g_at 8 1 L [.ref x] Z I J = g_at 8 4 L [] Z I J := gq_oinit e_8_1
theorem e_8_4 : g_Pg 8 4 = ga_aload 0 5 := (congrFun pg_8 4).trans rfl
theorem q_8_4 {x : Nat} {S : List Value} {Z : gZ} {I : gI} {J : gJ} : g_at 8 4 [.ref x] S Z I J = g_at 8 5 [.ref x] (.ref x :: S) Z I J := gq_aload e_8_4 rfl
theorem e_8_5 : g_Pg 8 5 = ga_new 0 6 8 := (congrFun pg_8 5).trans rfl
theorem q_8_5 {L : List Value} {S : List Value} {Z : gZ} {I : gI} {J : gJ} (h : Z.1 < 1000) : g_at 8 5 L S Z I J = g_at 8 8 L (.ref Z.1 :: S) (Z.1 + 1, Z.2.1 + 6, va_up Z.2.2.1 Z.1 (0, 0), va_up Z.2.2.2 Z.1 (fun _ => none)) (va_up I Z.1 (fun _ => 0)) (va_up J Z.1 (fun _ => 0)) := gq_new e_8_5 h
theorem e_8_8 : g_Pg 8 8 = ga_dup 9 := (congrFun pg_8 8).trans rfl
theorem q_8_8 {L : List Value} {x : Nat} {S : List Value} {Z : gZ} {I : gI} {J : gJ} : g_at 8 8 L (.ref x :: S) Z I J = g_at 8 9 L (.ref x :: .ref x :: S) Z I J := gq_dup e_8_8
theorem e_8_9 : g_Pg 8 9 = ga_callI 0 0 12 := (congrFun pg_8 9).trans rfl
theorem q_8_9 {L : List Value} {a0 : Nat} {r1 : Nat} {r2 : Nat} {Z : gZ} {I : gI} {J : gJ} : g_at 8 9 L [.ref a0, .ref r1, .ref r2] Z I J = (g_at 0 0 [.ref a0] [] Z I J).bind (fun r => g_at 8 12 L (r.1.toList ++ [.ref r1, .ref r2]) r.2.1 r.2.2.1 r.2.2.2) := gq_callI e_8_9 rfl rfl rfl rfl rfl rfl
theorem e_8_12 : g_Pg 8 12 = ga_putR 1 0 15 := (congrFun pg_8 12).trans rfl
theorem q_8_12 {L : List Value} {a v : Nat} {S : List Value} {Z : gZ} {I : gI} {J : gJ} (h : (gKd Z a).1 = 1) : g_at 8 12 L (.ref v :: .ref a :: S) Z I J = g_at 8 15 L S (Z.1, Z.2.1, Z.2.2.1, va_up Z.2.2.2 a (va_up (Z.2.2.2 a) 0 (some v))) I J := gq_putR e_8_12 h
theorem e_8_15 : g_Pg 8 15 = ga_aload 0 16 := (congrFun pg_8 15).trans rfl
theorem q_8_15 {x : Nat} {S : List Value} {Z : gZ} {I : gI} {J : gJ} : g_at 8 15 [.ref x] S Z I J = g_at 8 16 [.ref x] (.ref x :: S) Z I J := gq_aload e_8_15 rfl
theorem e_8_16 : g_Pg 8 16 = ga_new 5 3 19 := (congrFun pg_8 16).trans rfl
theorem q_8_16 {L : List Value} {S : List Value} {Z : gZ} {I : gI} {J : gJ} (h : Z.1 < 1000) : g_at 8 16 L S Z I J = g_at 8 19 L (.ref Z.1 :: S) (Z.1 + 1, Z.2.1 + 3, va_up Z.2.2.1 Z.1 (5, 0), va_up Z.2.2.2 Z.1 (fun _ => none)) (va_up I Z.1 (fun _ => 0)) (va_up J Z.1 (fun _ => 0)) := gq_new e_8_16 h
theorem e_8_19 : g_Pg 8 19 = ga_dup 20 := (congrFun pg_8 19).trans rfl
theorem q_8_19 {L : List Value} {x : Nat} {S : List Value} {Z : gZ} {I : gI} {J : gJ} : g_at 8 19 L (.ref x :: S) Z I J = g_at 8 20 L (.ref x :: .ref x :: S) Z I J := gq_dup e_8_19
theorem e_8_20 : g_Pg 8 20 = ga_callI 50 0 23 := (congrFun pg_8 20).trans rfl
theorem q_8_20 {L : List Value} {a0 : Nat} {r1 : Nat} {r2 : Nat} {Z : gZ} {I : gI} {J : gJ} : g_at 8 20 L [.ref a0, .ref r1, .ref r2] Z I J = (g_at 50 0 [.ref a0] [] Z I J).bind (fun r => g_at 8 23 L (r.1.toList ++ [.ref r1, .ref r2]) r.2.1 r.2.2.1 r.2.2.2) := gq_callI e_8_20 rfl rfl rfl rfl rfl rfl
theorem e_8_23 : g_Pg 8 23 = ga_putR 1 1 26 := (congrFun pg_8 23).trans rfl
theorem q_8_23 {L : List Value} {a v : Nat} {S : List Value} {Z : gZ} {I : gI} {J : gJ} (h : (gKd Z a).1 = 1) : g_at 8 23 L (.ref v :: .ref a :: S) Z I J = g_at 8 26 L S (Z.1, Z.2.1, Z.2.2.1, va_up Z.2.2.2 a (va_up (Z.2.2.2 a) 1 (some v))) I J := gq_putR e_8_23 h
theorem e_8_26 : g_Pg 8 26 = ga_aload 0 27 := (congrFun pg_8 26).trans rfl
theorem q_8_26 {x : Nat} {S : List Value} {Z : gZ} {I : gI} {J : gJ} : g_at 8 26 [.ref x] S Z I J = g_at 8 27 [.ref x] (.ref x :: S) Z I J := gq_aload e_8_26 rfl
theorem e_8_27 : g_Pg 8 27 = ga_new 5 3 30 := (congrFun pg_8 27).trans rfl
theorem q_8_27 {L : List Value} {S : List Value} {Z : gZ} {I : gI} {J : gJ} (h : Z.1 < 1000) : g_at 8 27 L S Z I J = g_at 8 30 L (.ref Z.1 :: S) (Z.1 + 1, Z.2.1 + 3, va_up Z.2.2.1 Z.1 (5, 0), va_up Z.2.2.2 Z.1 (fun _ => none)) (va_up I Z.1 (fun _ => 0)) (va_up J Z.1 (fun _ => 0)) := gq_new e_8_27 h
theorem e_8_30 : g_Pg 8 30 = ga_dup 31 := (congrFun pg_8 30).trans rfl
theorem q_8_30 {L : List Value} {x : Nat} {S : List Value} {Z : gZ} {I : gI} {J : gJ} : g_at 8 30 L (.ref x :: S) Z I J = g_at 8 31 L (.ref x :: .ref x :: S) Z I J := gq_dup e_8_30
theorem e_8_31 : g_Pg 8 31 = ga_callI 50 0 34 := (congrFun pg_8 31).trans rfl
theorem q_8_31 {L : List Value} {a0 : Nat} {r1 : Nat} {r2 : Nat} {Z : gZ} {I : gI} {J : gJ} : g_at 8 31 L [.ref a0, .ref r1, .ref r2] Z I J = (g_at 50 0 [.ref a0] [] Z I J).bind (fun r => g_at 8 34 L (r.1.toList ++ [.ref r1, .ref r2]) r.2.1 r.2.2.1 r.2.2.2) := gq_callI e_8_31 rfl rfl rfl rfl rfl rfl
theorem e_8_34 : g_Pg 8 34 = ga_putR 1 2 37 := (congrFun pg_8 34).trans rfl
theorem q_8_34 {L : List Value} {a v : Nat} {S : List Value} {Z : gZ} {I : gI} {J : gJ} (h : (gKd Z a).1 = 1) : g_at 8 34 L (.ref v :: .ref a :: S) Z I J = g_at 8 37 L S (Z.1, Z.2.1, Z.2.2.1, va_up Z.2.2.2 a (va_up (Z.2.2.2 a) 2 (some v))) I J := gq_putR e_8_34 h
theorem e_8_37 : g_Pg 8 37 = ga_vret := (congrFun pg_8 37).trans rfl
theorem q_8_37 {L : List Value} {Z : gZ} {I : gI} {J : gJ} : g_at 8 37 L [] Z I J = some (none, Z, I, J) := gq_vret e_8_37
theorem e_9_0 : g_Pg 9 0 = ga_aload 0 1 := (congrFun pg_9 0).trans rfl
theorem q_9_0 {l1 l2 : Value} {x : Nat} {S : List Value} {Z : gZ} {I : gI} {J : gJ} : g_at 9 0 [.ref x, l1, l2] S Z I J = g_at 9 1 [.ref x, l1, l2] (.ref x :: S) Z I J := gq_aload e_9_0 rfl
theorem e_9_1 : g_Pg 9 1 = ga_getR 1 0 4 := (congrFun pg_9 1).trans rfl
theorem q_9_1 {L : List Value} {a : Nat} {S : List Value} {Z : gZ} {I : gI} {J : gJ} (h : (gKd Z a).1 = 1) (h1 : gRs Z a 0 = true) : g_at 9 1 L (.ref a :: S) Z I J = g_at 9 4 L (.ref (gRq Z a 0) :: S) Z I J := gq_getR e_9_1 h h1
theorem e_9_4 : g_Pg 9 4 = ga_aload 1 5 := (congrFun pg_9 4).trans rfl
theorem q_9_4 {l0 l2 : Value} {x : Nat} {S : List Value} {Z : gZ} {I : gI} {J : gJ} : g_at 9 4 [l0, .ref x, l2] S Z I J = g_at 9 5 [l0, .ref x, l2] (.ref x :: S) Z I J := gq_aload e_9_4 rfl
theorem e_9_5 : g_Pg 9 5 = ga_callV 0 2 1 8 := (congrFun pg_9 5).trans rfl
theorem q_9_5 {L : List Value} {a0 : Nat} {a1 : Nat} {Z : gZ} {I : gI} {J : gJ} (h : (gKd Z a1).1 = 0) : g_at 9 5 L [.ref a0, .ref a1] Z I J = (g_at 2 0 [.ref a1, .ref a0] [] Z I J).bind (fun r => g_at 9 8 L (r.1.toList ++ []) r.2.1 r.2.2.1 r.2.2.2) := gq_callV e_9_5 rfl rfl h rfl rfl rfl rfl rfl
theorem e_9_8 : g_Pg 9 8 = ga_aload 0 9 := (congrFun pg_9 8).trans rfl
theorem q_9_8 {l1 l2 : Value} {x : Nat} {S : List Value} {Z : gZ} {I : gI} {J : gJ} : g_at 9 8 [.ref x, l1, l2] S Z I J = g_at 9 9 [.ref x, l1, l2] (.ref x :: S) Z I J := gq_aload e_9_8 rfl
theorem e_9_9 : g_Pg 9 9 = ga_iload 2 10 := (congrFun pg_9 9).trans rfl
theorem q_9_9 {l0 l1 : Value} {x : Int32} {S : List Value} {Z : gZ} {I : gI} {J : gJ} : g_at 9 9 [l0, l1, .int x] S Z I J = g_at 9 10 [l0, l1, .int x] (.int x :: S) Z I J := gq_iload e_9_9 rfl
theorem e_9_10 : g_Pg 9 10 = ga_putI 1 3 13 := (congrFun pg_9 10).trans rfl
theorem q_9_10 {L : List Value} {a : Nat} {v : Int32} {S : List Value} {Z : gZ} {I : gI} {J : gJ} (h : (gKd Z a).1 = 1) : g_at 9 10 L (.int v :: .ref a :: S) Z I J = g_at 9 13 L S Z (va_up I a (va_up (I a) 3 v)) J := gq_putI e_9_10 h
theorem e_9_13 : g_Pg 9 13 = ga_aload 0 14 := (congrFun pg_9 13).trans rfl
theorem q_9_13 {l1 l2 : Value} {x : Nat} {S : List Value} {Z : gZ} {I : gI} {J : gJ} : g_at 9 13 [.ref x, l1, l2] S Z I J = g_at 9 14 [.ref x, l1, l2] (.ref x :: S) Z I J := gq_aload e_9_13 rfl
theorem e_9_14 : g_Pg 9 14 = ga_push (.int (-1)) 15 := (congrFun pg_9 14).trans rfl
theorem q_9_14 {L : List Value} {S : List Value} {Z : gZ} {I : gI} {J : gJ} : g_at 9 14 L S Z I J = g_at 9 15 L (.int (-1) :: S) Z I J := gq_push e_9_14
theorem e_9_15 : g_Pg 9 15 = ga_putI 1 4 18 := (congrFun pg_9 15).trans rfl
theorem q_9_15 {L : List Value} {a : Nat} {v : Int32} {S : List Value} {Z : gZ} {I : gI} {J : gJ} (h : (gKd Z a).1 = 1) : g_at 9 15 L (.int v :: .ref a :: S) Z I J = g_at 9 18 L S Z (va_up I a (va_up (I a) 4 v)) J := gq_putI e_9_15 h
theorem e_9_18 : g_Pg 9 18 = ga_vret := (congrFun pg_9 18).trans rfl
theorem q_9_18 {L : List Value} {Z : gZ} {I : gI} {J : gJ} : g_at 9 18 L [] Z I J = some (none, Z, I, J) := gq_vret e_9_18
theorem e_10_0 : g_Pg 10 0 = ga_iload 2 1 := (congrFun pg_10 0).trans rfl
theorem q_10_0 {l0 l1 l3 : Value} {x : Int32} {S : List Value} {Z : gZ} {I : gI} {J : gJ} : g_at 10 0 [l0, l1, .int x, l3] S Z I J = g_at 10 1 [l0, l1, .int x, l3] (.int x :: S) Z I J := gq_iload e_10_0 rfl
theorem e_10_1 : g_Pg 10 1 = ga_iload 1 2 := (congrFun pg_10 1).trans rfl
theorem q_10_1 {l0 l2 l3 : Value} {x : Int32} {S : List Value} {Z : gZ} {I : gI} {J : gJ} : g_at 10 1 [l0, .int x, l2, l3] S Z I J = g_at 10 2 [l0, .int x, l2, l3] (.int x :: S) Z I J := gq_iload e_10_1 rfl
theorem e_10_2 : g_Pg 10 2 = ga_cmp (fun x y => decide (¬ x = y)) 7 5 := (congrFun pg_10 2).trans rfl
theorem q_10_2 {L : List Value} {x y : Int32} {S : List Value} {Z : gZ} {I : gI} {J : gJ} : g_at 10 2 L (.int y :: .int x :: S) Z I J = if ¬ x = y then g_at 10 7 L S Z I J else g_at 10 5 L S Z I J := gq_cmp e_10_2 rfl
theorem e_10_5 : g_Pg 10 5 = ga_push (.int 0) 6 := (congrFun pg_10 5).trans rfl
theorem q_10_5 {L : List Value} {S : List Value} {Z : gZ} {I : gI} {J : gJ} : g_at 10 5 L S Z I J = g_at 10 6 L (.int 0 :: S) Z I J := gq_push e_10_5
theorem e_10_6 : g_Pg 10 6 = ga_iret := (congrFun pg_10 6).trans rfl
theorem q_10_6 {L : List Value} {x : Int32} {Z : gZ} {I : gI} {J : gJ} : g_at 10 6 L [.int x] Z I J = some (some (.int x), Z, I, J) := gq_iret e_10_6
theorem e_10_7 : g_Pg 10 7 = ga_aload 0 8 := (congrFun pg_10 7).trans rfl
theorem q_10_7 {l1 l2 l3 : Value} {x : Nat} {S : List Value} {Z : gZ} {I : gI} {J : gJ} : g_at 10 7 [.ref x, l1, l2, l3] S Z I J = g_at 10 8 [.ref x, l1, l2, l3] (.ref x :: S) Z I J := gq_aload e_10_7 rfl
theorem e_10_8 : g_Pg 10 8 = ga_getR 1 1 11 := (congrFun pg_10 8).trans rfl
theorem q_10_8 {L : List Value} {a : Nat} {S : List Value} {Z : gZ} {I : gI} {J : gJ} (h : (gKd Z a).1 = 1) (h1 : gRs Z a 1 = true) : g_at 10 8 L (.ref a :: S) Z I J = g_at 10 11 L (.ref (gRq Z a 1) :: S) Z I J := gq_getR e_10_8 h h1
theorem e_10_11 : g_Pg 10 11 = ga_aload 0 12 := (congrFun pg_10 11).trans rfl
theorem q_10_11 {l1 l2 l3 : Value} {x : Nat} {S : List Value} {Z : gZ} {I : gI} {J : gJ} : g_at 10 11 [.ref x, l1, l2, l3] S Z I J = g_at 10 12 [.ref x, l1, l2, l3] (.ref x :: S) Z I J := gq_aload e_10_11 rfl
theorem e_10_12 : g_Pg 10 12 = ga_getR 1 0 15 := (congrFun pg_10 12).trans rfl
theorem q_10_12 {L : List Value} {a : Nat} {S : List Value} {Z : gZ} {I : gI} {J : gJ} (h : (gKd Z a).1 = 1) (h1 : gRs Z a 0 = true) : g_at 10 12 L (.ref a :: S) Z I J = g_at 10 15 L (.ref (gRq Z a 0) :: S) Z I J := gq_getR e_10_12 h h1
theorem e_10_15 : g_Pg 10 15 = ga_aload 0 16 := (congrFun pg_10 15).trans rfl
theorem q_10_15 {l1 l2 l3 : Value} {x : Nat} {S : List Value} {Z : gZ} {I : gI} {J : gJ} : g_at 10 15 [.ref x, l1, l2, l3] S Z I J = g_at 10 16 [.ref x, l1, l2, l3] (.ref x :: S) Z I J := gq_aload e_10_15 rfl
theorem e_10_16 : g_Pg 10 16 = ga_getI 1 3 19 := (congrFun pg_10 16).trans rfl
theorem q_10_16 {L : List Value} {a : Nat} {S : List Value} {Z : gZ} {I : gI} {J : gJ} (h : (gKd Z a).1 = 1) : g_at 10 16 L (.ref a :: S) Z I J = g_at 10 19 L (.int (I a 3) :: S) Z I J := gq_getI e_10_16 h
theorem e_10_19 : g_Pg 10 19 = ga_aload 0 20 := (congrFun pg_10 19).trans rfl
theorem q_10_19 {l1 l2 l3 : Value} {x : Nat} {S : List Value} {Z : gZ} {I : gI} {J : gJ} : g_at 10 19 [.ref x, l1, l2, l3] S Z I J = g_at 10 20 [.ref x, l1, l2, l3] (.ref x :: S) Z I J := gq_aload e_10_19 rfl
theorem e_10_20 : g_Pg 10 20 = ga_getI 1 4 23 := (congrFun pg_10 20).trans rfl
theorem q_10_20 {L : List Value} {a : Nat} {S : List Value} {Z : gZ} {I : gI} {J : gJ} (h : (gKd Z a).1 = 1) : g_at 10 20 L (.ref a :: S) Z I J = g_at 10 23 L (.int (I a 4) :: S) Z I J := gq_getI e_10_20 h
theorem e_10_23 : g_Pg 10 23 = ga_iload 1 24 := (congrFun pg_10 23).trans rfl
theorem q_10_23 {l0 l2 l3 : Value} {x : Int32} {S : List Value} {Z : gZ} {I : gI} {J : gJ} : g_at 10 23 [l0, .int x, l2, l3] S Z I J = g_at 10 24 [l0, .int x, l2, l3] (.int x :: S) Z I J := gq_iload e_10_23 rfl
theorem e_10_24 : g_Pg 10 24 = ga_iload 2 25 := (congrFun pg_10 24).trans rfl
theorem q_10_24 {l0 l1 l3 : Value} {x : Int32} {S : List Value} {Z : gZ} {I : gI} {J : gJ} : g_at 10 24 [l0, l1, .int x, l3] S Z I J = g_at 10 25 [l0, l1, .int x, l3] (.int x :: S) Z I J := gq_iload e_10_24 rfl
theorem e_10_25 : g_Pg 10 25 = ga_callV 5 51 5 28 := (congrFun pg_10 25).trans rfl
theorem q_10_25 {L : List Value} {a0 : Int32} {a1 : Int32} {a2 : Int32} {a3 : Int32} {a4 : Nat} {a5 : Nat} {Z : gZ} {I : gI} {J : gJ} (h : (gKd Z a5).1 = 5) : g_at 10 25 L [.int a0, .int a1, .int a2, .int a3, .ref a4, .ref a5] Z I J = (g_at 51 0 [.ref a5, .ref a4, .int a3, .int a2, .int a1, .int a0, .null, .null] [] Z I J).bind (fun r => g_at 10 28 L (r.1.toList ++ []) r.2.1 r.2.2.1 r.2.2.2) := gq_callV e_10_25 rfl rfl h rfl rfl rfl rfl rfl
theorem e_10_28 : g_Pg 10 28 = ga_if (fun x => decide (¬ x = 0)) 33 31 := (congrFun pg_10 28).trans rfl
theorem q_10_28 {L : List Value} {x : Int32} {S : List Value} {Z : gZ} {I : gI} {J : gJ} : g_at 10 28 L (.int x :: S) Z I J = if ¬ x = 0 then g_at 10 33 L S Z I J else g_at 10 31 L S Z I J := gq_if e_10_28 rfl
theorem e_10_31 : g_Pg 10 31 = ga_push (.int (-1)) 32 := (congrFun pg_10 31).trans rfl
theorem q_10_31 {L : List Value} {S : List Value} {Z : gZ} {I : gI} {J : gJ} : g_at 10 31 L S Z I J = g_at 10 32 L (.int (-1) :: S) Z I J := gq_push e_10_31
theorem e_10_32 : g_Pg 10 32 = ga_iret := (congrFun pg_10 32).trans rfl
theorem q_10_32 {L : List Value} {x : Int32} {Z : gZ} {I : gI} {J : gJ} : g_at 10 32 L [.int x] Z I J = some (some (.int x), Z, I, J) := gq_iret e_10_32
theorem e_10_33 : g_Pg 10 33 = ga_aload 0 34 := (congrFun pg_10 33).trans rfl
theorem q_10_33 {l1 l2 l3 : Value} {x : Nat} {S : List Value} {Z : gZ} {I : gI} {J : gJ} : g_at 10 33 [.ref x, l1, l2, l3] S Z I J = g_at 10 34 [.ref x, l1, l2, l3] (.ref x :: S) Z I J := gq_aload e_10_33 rfl
theorem e_10_34 : g_Pg 10 34 = ga_getR 1 1 37 := (congrFun pg_10 34).trans rfl
theorem q_10_34 {L : List Value} {a : Nat} {S : List Value} {Z : gZ} {I : gI} {J : gJ} (h : (gKd Z a).1 = 1) (h1 : gRs Z a 1 = true) : g_at 10 34 L (.ref a :: S) Z I J = g_at 10 37 L (.ref (gRq Z a 1) :: S) Z I J := gq_getR e_10_34 h h1
theorem e_10_37 : g_Pg 10 37 = ga_getI 5 1 40 := (congrFun pg_10 37).trans rfl
theorem q_10_37 {L : List Value} {a : Nat} {S : List Value} {Z : gZ} {I : gI} {J : gJ} (h : (gKd Z a).1 = 5) : g_at 10 37 L (.ref a :: S) Z I J = g_at 10 40 L (.int (I a 1) :: S) Z I J := gq_getI e_10_37 h
theorem e_10_40 : g_Pg 10 40 = ga_if (fun x => decide (¬ x = 0)) 51 43 := (congrFun pg_10 40).trans rfl
theorem q_10_40 {L : List Value} {x : Int32} {S : List Value} {Z : gZ} {I : gI} {J : gJ} : g_at 10 40 L (.int x :: S) Z I J = if ¬ x = 0 then g_at 10 51 L S Z I J else g_at 10 43 L S Z I J := gq_if e_10_40 rfl
theorem e_10_43 : g_Pg 10 43 = ga_aload 0 44 := (congrFun pg_10 43).trans rfl
theorem q_10_43 {l1 l2 l3 : Value} {x : Nat} {S : List Value} {Z : gZ} {I : gI} {J : gJ} : g_at 10 43 [.ref x, l1, l2, l3] S Z I J = g_at 10 44 [.ref x, l1, l2, l3] (.ref x :: S) Z I J := gq_aload e_10_43 rfl
theorem e_10_44 : g_Pg 10 44 = ga_getR 1 1 47 := (congrFun pg_10 44).trans rfl
theorem q_10_44 {L : List Value} {a : Nat} {S : List Value} {Z : gZ} {I : gI} {J : gJ} (h : (gKd Z a).1 = 1) (h1 : gRs Z a 1 = true) : g_at 10 44 L (.ref a :: S) Z I J = g_at 10 47 L (.ref (gRq Z a 1) :: S) Z I J := gq_getR e_10_44 h h1
theorem e_10_47 : g_Pg 10 47 = ga_getI 5 0 50 := (congrFun pg_10 47).trans rfl
theorem q_10_47 {L : List Value} {a : Nat} {S : List Value} {Z : gZ} {I : gI} {J : gJ} (h : (gKd Z a).1 = 5) : g_at 10 47 L (.ref a :: S) Z I J = g_at 10 50 L (.int (I a 0) :: S) Z I J := gq_getI e_10_47 h
theorem e_10_50 : g_Pg 10 50 = ga_iret := (congrFun pg_10 50).trans rfl
theorem q_10_50 {L : List Value} {x : Int32} {Z : gZ} {I : gI} {J : gJ} : g_at 10 50 L [.int x] Z I J = some (some (.int x), Z, I, J) := gq_iret e_10_50
theorem e_10_51 : g_Pg 10 51 = ga_aload 0 52 := (congrFun pg_10 51).trans rfl
theorem q_10_51 {l1 l2 l3 : Value} {x : Nat} {S : List Value} {Z : gZ} {I : gI} {J : gJ} : g_at 10 51 [.ref x, l1, l2, l3] S Z I J = g_at 10 52 [.ref x, l1, l2, l3] (.ref x :: S) Z I J := gq_aload e_10_51 rfl
theorem e_10_52 : g_Pg 10 52 = ga_iload 1 53 := (congrFun pg_10 52).trans rfl
theorem q_10_52 {l0 l2 l3 : Value} {x : Int32} {S : List Value} {Z : gZ} {I : gI} {J : gJ} : g_at 10 52 [l0, .int x, l2, l3] S Z I J = g_at 10 53 [l0, .int x, l2, l3] (.int x :: S) Z I J := gq_iload e_10_52 rfl
theorem e_10_53 : g_Pg 10 53 = ga_callV 1 11 1 56 := (congrFun pg_10 53).trans rfl
theorem q_10_53 {L : List Value} {a0 : Int32} {a1 : Nat} {Z : gZ} {I : gI} {J : gJ} (h : (gKd Z a1).1 = 1) : g_at 10 53 L [.int a0, .ref a1] Z I J = (g_at 11 0 [.ref a1, .int a0, .null] [] Z I J).bind (fun r => g_at 10 56 L (r.1.toList ++ []) r.2.1 r.2.2.1 r.2.2.2) := gq_callV e_10_53 rfl rfl h rfl rfl rfl rfl rfl
theorem e_10_56 : g_Pg 10 56 = ga_istore 3 57 := (congrFun pg_10 56).trans rfl
theorem q_10_56 {l0 l1 l2 l3 : Value} {x : Int32} {S : List Value} {Z : gZ} {I : gI} {J : gJ} (h : gN1 l2 = true) : g_at 10 56 [l0, l1, l2, l3] (.int x :: S) Z I J = g_at 10 57 [l0, l1, l2, .int x] S Z I J := gq_istore e_10_56 h rfl rfl
theorem e_10_57 : g_Pg 10 57 = ga_iload 3 58 := (congrFun pg_10 57).trans rfl
theorem q_10_57 {l0 l1 l2 : Value} {x : Int32} {S : List Value} {Z : gZ} {I : gI} {J : gJ} : g_at 10 57 [l0, l1, l2, .int x] S Z I J = g_at 10 58 [l0, l1, l2, .int x] (.int x :: S) Z I J := gq_iload e_10_57 rfl
theorem e_10_58 : g_Pg 10 58 = ga_push (.int (-1)) 59 := (congrFun pg_10 58).trans rfl
theorem q_10_58 {L : List Value} {S : List Value} {Z : gZ} {I : gI} {J : gJ} : g_at 10 58 L S Z I J = g_at 10 59 L (.int (-1) :: S) Z I J := gq_push e_10_58
theorem e_10_59 : g_Pg 10 59 = ga_cmp (fun x y => decide (¬ x = y)) 66 62 := (congrFun pg_10 59).trans rfl
theorem q_10_59 {L : List Value} {x y : Int32} {S : List Value} {Z : gZ} {I : gI} {J : gJ} : g_at 10 59 L (.int y :: .int x :: S) Z I J = if ¬ x = y then g_at 10 66 L S Z I J else g_at 10 62 L S Z I J := gq_cmp e_10_59 rfl
theorem e_10_62 : g_Pg 10 62 = ga_push (.int (-1)) 63 := (congrFun pg_10 62).trans rfl
theorem q_10_62 {L : List Value} {S : List Value} {Z : gZ} {I : gI} {J : gJ} : g_at 10 62 L S Z I J = g_at 10 63 L (.int (-1) :: S) Z I J := gq_push e_10_62
theorem e_10_63 : g_Pg 10 63 = ga_goto 87 := (congrFun pg_10 63).trans rfl
theorem q_10_63 {L : List Value} {S : List Value} {Z : gZ} {I : gI} {J : gJ} : g_at 10 63 L S Z I J = g_at 10 87 L S Z I J := gq_goto e_10_63
theorem e_10_66 : g_Pg 10 66 = ga_aload 0 67 := (congrFun pg_10 66).trans rfl
theorem q_10_66 {l1 l2 l3 : Value} {x : Nat} {S : List Value} {Z : gZ} {I : gI} {J : gJ} : g_at 10 66 [.ref x, l1, l2, l3] S Z I J = g_at 10 67 [.ref x, l1, l2, l3] (.ref x :: S) Z I J := gq_aload e_10_66 rfl
theorem e_10_67 : g_Pg 10 67 = ga_getR 1 1 70 := (congrFun pg_10 67).trans rfl
theorem q_10_67 {L : List Value} {a : Nat} {S : List Value} {Z : gZ} {I : gI} {J : gJ} (h : (gKd Z a).1 = 1) (h1 : gRs Z a 1 = true) : g_at 10 67 L (.ref a :: S) Z I J = g_at 10 70 L (.ref (gRq Z a 1) :: S) Z I J := gq_getR e_10_67 h h1
theorem e_10_70 : g_Pg 10 70 = ga_getI 5 0 73 := (congrFun pg_10 70).trans rfl
theorem q_10_70 {L : List Value} {a : Nat} {S : List Value} {Z : gZ} {I : gI} {J : gJ} (h : (gKd Z a).1 = 5) : g_at 10 70 L (.ref a :: S) Z I J = g_at 10 73 L (.int (I a 0) :: S) Z I J := gq_getI e_10_70 h
theorem e_10_73 : g_Pg 10 73 = ga_push (.int 1) 74 := (congrFun pg_10 73).trans rfl
theorem q_10_73 {L : List Value} {S : List Value} {Z : gZ} {I : gI} {J : gJ} : g_at 10 73 L S Z I J = g_at 10 74 L (.int 1 :: S) Z I J := gq_push e_10_73
theorem e_10_74 : g_Pg 10 74 = ga_aload 0 75 := (congrFun pg_10 74).trans rfl
theorem q_10_74 {l1 l2 l3 : Value} {x : Nat} {S : List Value} {Z : gZ} {I : gI} {J : gJ} : g_at 10 74 [.ref x, l1, l2, l3] S Z I J = g_at 10 75 [.ref x, l1, l2, l3] (.ref x :: S) Z I J := gq_aload e_10_74 rfl
theorem e_10_75 : g_Pg 10 75 = ga_getR 1 1 78 := (congrFun pg_10 75).trans rfl
theorem q_10_75 {L : List Value} {a : Nat} {S : List Value} {Z : gZ} {I : gI} {J : gJ} (h : (gKd Z a).1 = 1) (h1 : gRs Z a 1 = true) : g_at 10 75 L (.ref a :: S) Z I J = g_at 10 78 L (.ref (gRq Z a 1) :: S) Z I J := gq_getR e_10_75 h h1
theorem e_10_78 : g_Pg 10 78 = ga_getI 5 1 81 := (congrFun pg_10 78).trans rfl
theorem q_10_78 {L : List Value} {a : Nat} {S : List Value} {Z : gZ} {I : gI} {J : gJ} (h : (gKd Z a).1 = 5) : g_at 10 78 L (.ref a :: S) Z I J = g_at 10 81 L (.int (I a 1) :: S) Z I J := gq_getI e_10_78 h
theorem e_10_81 : g_Pg 10 81 = ga_bin (fun x y => x <<< (y &&& 31)) 82 := (congrFun pg_10 81).trans rfl
theorem q_10_81 {L : List Value} {x y : Int32} {S : List Value} {Z : gZ} {I : gI} {J : gJ} : g_at 10 81 L (.int y :: .int x :: S) Z I J = g_at 10 82 L (.int (x <<< (y &&& 31)) :: S) Z I J := gq_bin e_10_81
theorem e_10_82 : g_Pg 10 82 = ga_push (.int 1) 83 := (congrFun pg_10 82).trans rfl
theorem q_10_82 {L : List Value} {S : List Value} {Z : gZ} {I : gI} {J : gJ} : g_at 10 82 L S Z I J = g_at 10 83 L (.int 1 :: S) Z I J := gq_push e_10_82
theorem e_10_83 : g_Pg 10 83 = ga_bin (fun x y => x - y) 84 := (congrFun pg_10 83).trans rfl
theorem q_10_83 {L : List Value} {x y : Int32} {S : List Value} {Z : gZ} {I : gI} {J : gJ} : g_at 10 83 L (.int y :: .int x :: S) Z I J = g_at 10 84 L (.int (x - y) :: S) Z I J := gq_bin e_10_83
theorem e_10_84 : g_Pg 10 84 = ga_iload 3 85 := (congrFun pg_10 84).trans rfl
theorem q_10_84 {l0 l1 l2 : Value} {x : Int32} {S : List Value} {Z : gZ} {I : gI} {J : gJ} : g_at 10 84 [l0, l1, l2, .int x] S Z I J = g_at 10 85 [l0, l1, l2, .int x] (.int x :: S) Z I J := gq_iload e_10_84 rfl
theorem e_10_85 : g_Pg 10 85 = ga_bin (fun x y => x * y) 86 := (congrFun pg_10 85).trans rfl
theorem q_10_85 {L : List Value} {x y : Int32} {S : List Value} {Z : gZ} {I : gI} {J : gJ} : g_at 10 85 L (.int y :: .int x :: S) Z I J = g_at 10 86 L (.int (x * y) :: S) Z I J := gq_bin e_10_85
theorem e_10_86 : g_Pg 10 86 = ga_bin (fun x y => x + y) 87 := (congrFun pg_10 86).trans rfl
theorem q_10_86 {L : List Value} {x y : Int32} {S : List Value} {Z : gZ} {I : gI} {J : gJ} : g_at 10 86 L (.int y :: .int x :: S) Z I J = g_at 10 87 L (.int (x + y) :: S) Z I J := gq_bin e_10_86
theorem e_10_87 : g_Pg 10 87 = ga_iret := (congrFun pg_10 87).trans rfl
theorem q_10_87 {L : List Value} {x : Int32} {Z : gZ} {I : gI} {J : gJ} : g_at 10 87 L [.int x] Z I J = some (some (.int x), Z, I, J) := gq_iret e_10_87
theorem e_11_0 : g_Pg 11 0 = ga_aload 0 1 := (congrFun pg_11 0).trans rfl
theorem q_11_0 {l1 l2 : Value} {x : Nat} {S : List Value} {Z : gZ} {I : gI} {J : gJ} : g_at 11 0 [.ref x, l1, l2] S Z I J = g_at 11 1 [.ref x, l1, l2] (.ref x :: S) Z I J := gq_aload e_11_0 rfl
theorem e_11_1 : g_Pg 11 1 = ga_getR 1 2 4 := (congrFun pg_11 1).trans rfl
theorem q_11_1 {L : List Value} {a : Nat} {S : List Value} {Z : gZ} {I : gI} {J : gJ} (h : (gKd Z a).1 = 1) (h1 : gRs Z a 2 = true) : g_at 11 1 L (.ref a :: S) Z I J = g_at 11 4 L (.ref (gRq Z a 2) :: S) Z I J := gq_getR e_11_1 h h1
theorem e_11_4 : g_Pg 11 4 = ga_aload 0 5 := (congrFun pg_11 4).trans rfl
theorem q_11_4 {l1 l2 : Value} {x : Nat} {S : List Value} {Z : gZ} {I : gI} {J : gJ} : g_at 11 4 [.ref x, l1, l2] S Z I J = g_at 11 5 [.ref x, l1, l2] (.ref x :: S) Z I J := gq_aload e_11_4 rfl
theorem e_11_5 : g_Pg 11 5 = ga_getR 1 0 8 := (congrFun pg_11 5).trans rfl
theorem q_11_5 {L : List Value} {a : Nat} {S : List Value} {Z : gZ} {I : gI} {J : gJ} (h : (gKd Z a).1 = 1) (h1 : gRs Z a 0 = true) : g_at 11 5 L (.ref a :: S) Z I J = g_at 11 8 L (.ref (gRq Z a 0) :: S) Z I J := gq_getR e_11_5 h h1
theorem e_11_8 : g_Pg 11 8 = ga_aload 0 9 := (congrFun pg_11 8).trans rfl
theorem q_11_8 {l1 l2 : Value} {x : Nat} {S : List Value} {Z : gZ} {I : gI} {J : gJ} : g_at 11 8 [.ref x, l1, l2] S Z I J = g_at 11 9 [.ref x, l1, l2] (.ref x :: S) Z I J := gq_aload e_11_8 rfl
theorem e_11_9 : g_Pg 11 9 = ga_getI 1 3 12 := (congrFun pg_11 9).trans rfl
theorem q_11_9 {L : List Value} {a : Nat} {S : List Value} {Z : gZ} {I : gI} {J : gJ} (h : (gKd Z a).1 = 1) : g_at 11 9 L (.ref a :: S) Z I J = g_at 11 12 L (.int (I a 3) :: S) Z I J := gq_getI e_11_9 h
theorem e_11_12 : g_Pg 11 12 = ga_aload 0 13 := (congrFun pg_11 12).trans rfl
theorem q_11_12 {l1 l2 : Value} {x : Nat} {S : List Value} {Z : gZ} {I : gI} {J : gJ} : g_at 11 12 [.ref x, l1, l2] S Z I J = g_at 11 13 [.ref x, l1, l2] (.ref x :: S) Z I J := gq_aload e_11_12 rfl
theorem e_11_13 : g_Pg 11 13 = ga_getI 1 4 16 := (congrFun pg_11 13).trans rfl
theorem q_11_13 {L : List Value} {a : Nat} {S : List Value} {Z : gZ} {I : gI} {J : gJ} (h : (gKd Z a).1 = 1) : g_at 11 13 L (.ref a :: S) Z I J = g_at 11 16 L (.int (I a 4) :: S) Z I J := gq_getI e_11_13 h
theorem e_11_16 : g_Pg 11 16 = ga_iload 1 17 := (congrFun pg_11 16).trans rfl
theorem q_11_16 {l0 l2 : Value} {x : Int32} {S : List Value} {Z : gZ} {I : gI} {J : gJ} : g_at 11 16 [l0, .int x, l2] S Z I J = g_at 11 17 [l0, .int x, l2] (.int x :: S) Z I J := gq_iload e_11_16 rfl
theorem e_11_17 : g_Pg 11 17 = ga_iload 1 18 := (congrFun pg_11 17).trans rfl
theorem q_11_17 {l0 l2 : Value} {x : Int32} {S : List Value} {Z : gZ} {I : gI} {J : gJ} : g_at 11 17 [l0, .int x, l2] S Z I J = g_at 11 18 [l0, .int x, l2] (.int x :: S) Z I J := gq_iload e_11_17 rfl
theorem e_11_18 : g_Pg 11 18 = ga_callV 5 51 5 21 := (congrFun pg_11 18).trans rfl
theorem q_11_18 {L : List Value} {a0 : Int32} {a1 : Int32} {a2 : Int32} {a3 : Int32} {a4 : Nat} {a5 : Nat} {Z : gZ} {I : gI} {J : gJ} (h : (gKd Z a5).1 = 5) : g_at 11 18 L [.int a0, .int a1, .int a2, .int a3, .ref a4, .ref a5] Z I J = (g_at 51 0 [.ref a5, .ref a4, .int a3, .int a2, .int a1, .int a0, .null, .null] [] Z I J).bind (fun r => g_at 11 21 L (r.1.toList ++ []) r.2.1 r.2.2.1 r.2.2.2) := gq_callV e_11_18 rfl rfl h rfl rfl rfl rfl rfl
theorem e_11_21 : g_Pg 11 21 = ga_istore 2 22 := (congrFun pg_11 21).trans rfl
theorem q_11_21 {l0 l1 l2 : Value} {x : Int32} {S : List Value} {Z : gZ} {I : gI} {J : gJ} (h : gN1 l1 = true) : g_at 11 21 [l0, l1, l2] (.int x :: S) Z I J = g_at 11 22 [l0, l1, .int x] S Z I J := gq_istore e_11_21 h rfl rfl
theorem e_11_22 : g_Pg 11 22 = ga_iload 2 23 := (congrFun pg_11 22).trans rfl
theorem q_11_22 {l0 l1 : Value} {x : Int32} {S : List Value} {Z : gZ} {I : gI} {J : gJ} : g_at 11 22 [l0, l1, .int x] S Z I J = g_at 11 23 [l0, l1, .int x] (.int x :: S) Z I J := gq_iload e_11_22 rfl
theorem e_11_23 : g_Pg 11 23 = ga_if (fun x => decide (x = 0)) 46 26 := (congrFun pg_11 23).trans rfl
theorem q_11_23 {L : List Value} {x : Int32} {S : List Value} {Z : gZ} {I : gI} {J : gJ} : g_at 11 23 L (.int x :: S) Z I J = if x = 0 then g_at 11 46 L S Z I J else g_at 11 26 L S Z I J := gq_if e_11_23 rfl
theorem e_11_26 : g_Pg 11 26 = ga_aload 0 27 := (congrFun pg_11 26).trans rfl
theorem q_11_26 {l1 l2 : Value} {x : Nat} {S : List Value} {Z : gZ} {I : gI} {J : gJ} : g_at 11 26 [.ref x, l1, l2] S Z I J = g_at 11 27 [.ref x, l1, l2] (.ref x :: S) Z I J := gq_aload e_11_26 rfl
theorem e_11_27 : g_Pg 11 27 = ga_getR 1 2 30 := (congrFun pg_11 27).trans rfl
theorem q_11_27 {L : List Value} {a : Nat} {S : List Value} {Z : gZ} {I : gI} {J : gJ} (h : (gKd Z a).1 = 1) (h1 : gRs Z a 2 = true) : g_at 11 27 L (.ref a :: S) Z I J = g_at 11 30 L (.ref (gRq Z a 2) :: S) Z I J := gq_getR e_11_27 h h1
theorem e_11_30 : g_Pg 11 30 = ga_getI 5 1 33 := (congrFun pg_11 30).trans rfl
theorem q_11_30 {L : List Value} {a : Nat} {S : List Value} {Z : gZ} {I : gI} {J : gJ} (h : (gKd Z a).1 = 5) : g_at 11 30 L (.ref a :: S) Z I J = g_at 11 33 L (.int (I a 1) :: S) Z I J := gq_getI e_11_30 h
theorem e_11_33 : g_Pg 11 33 = ga_if (fun x => decide (¬ x = 0)) 46 36 := (congrFun pg_11 33).trans rfl
theorem q_11_33 {L : List Value} {x : Int32} {S : List Value} {Z : gZ} {I : gI} {J : gJ} : g_at 11 33 L (.int x :: S) Z I J = if ¬ x = 0 then g_at 11 46 L S Z I J else g_at 11 36 L S Z I J := gq_if e_11_33 rfl
theorem e_11_36 : g_Pg 11 36 = ga_aload 0 37 := (congrFun pg_11 36).trans rfl
theorem q_11_36 {l1 l2 : Value} {x : Nat} {S : List Value} {Z : gZ} {I : gI} {J : gJ} : g_at 11 36 [.ref x, l1, l2] S Z I J = g_at 11 37 [.ref x, l1, l2] (.ref x :: S) Z I J := gq_aload e_11_36 rfl
theorem e_11_37 : g_Pg 11 37 = ga_getR 1 2 40 := (congrFun pg_11 37).trans rfl
theorem q_11_37 {L : List Value} {a : Nat} {S : List Value} {Z : gZ} {I : gI} {J : gJ} (h : (gKd Z a).1 = 1) (h1 : gRs Z a 2 = true) : g_at 11 37 L (.ref a :: S) Z I J = g_at 11 40 L (.ref (gRq Z a 2) :: S) Z I J := gq_getR e_11_37 h h1
theorem e_11_40 : g_Pg 11 40 = ga_getI 5 0 43 := (congrFun pg_11 40).trans rfl
theorem q_11_40 {L : List Value} {a : Nat} {S : List Value} {Z : gZ} {I : gI} {J : gJ} (h : (gKd Z a).1 = 5) : g_at 11 40 L (.ref a :: S) Z I J = g_at 11 43 L (.int (I a 0) :: S) Z I J := gq_getI e_11_40 h
theorem e_11_43 : g_Pg 11 43 = ga_goto 47 := (congrFun pg_11 43).trans rfl
theorem q_11_43 {L : List Value} {S : List Value} {Z : gZ} {I : gI} {J : gJ} : g_at 11 43 L S Z I J = g_at 11 47 L S Z I J := gq_goto e_11_43
theorem e_11_46 : g_Pg 11 46 = ga_push (.int (-1)) 47 := (congrFun pg_11 46).trans rfl
theorem q_11_46 {L : List Value} {S : List Value} {Z : gZ} {I : gI} {J : gJ} : g_at 11 46 L S Z I J = g_at 11 47 L (.int (-1) :: S) Z I J := gq_push e_11_46
theorem e_11_47 : g_Pg 11 47 = ga_iret := (congrFun pg_11 47).trans rfl
theorem q_11_47 {L : List Value} {x : Int32} {Z : gZ} {I : gI} {J : gJ} : g_at 11 47 L [.int x] Z I J = some (some (.int x), Z, I, J) := gq_iret e_11_47
theorem e_12_0 : g_Pg 12 0 = ga_push (.int 0) 1 := (congrFun pg_12 0).trans rfl
theorem q_12_0 {L : List Value} {S : List Value} {Z : gZ} {I : gI} {J : gJ} : g_at 12 0 L S Z I J = g_at 12 1 L (.int 0 :: S) Z I J := gq_push e_12_0
theorem e_12_1 : g_Pg 12 1 = ga_istore 2 2 := (congrFun pg_12 1).trans rfl
theorem q_12_1 {l0 l1 l2 l3 : Value} {x : Int32} {S : List Value} {Z : gZ} {I : gI} {J : gJ} (h : gN1 l1 = true) : g_at 12 1 [l0, l1, l2, l3] (.int x :: S) Z I J = g_at 12 2 [l0, l1, .int x, l3] S Z I J := gq_istore e_12_1 h rfl rfl
theorem e_12_2 : g_Pg 12 2 = ga_push (.int 0) 3 := (congrFun pg_12 2).trans rfl
theorem q_12_2 {L : List Value} {S : List Value} {Z : gZ} {I : gI} {J : gJ} : g_at 12 2 L S Z I J = g_at 12 3 L (.int 0 :: S) Z I J := gq_push e_12_2
theorem e_12_3 : g_Pg 12 3 = ga_istore 3 4 := (congrFun pg_12 3).trans rfl
theorem q_12_3 {l0 l1 l2 l3 : Value} {x : Int32} {S : List Value} {Z : gZ} {I : gI} {J : gJ} (h : gN1 l2 = true) : g_at 12 3 [l0, l1, l2, l3] (.int x :: S) Z I J = g_at 12 4 [l0, l1, l2, .int x] S Z I J := gq_istore e_12_3 h rfl rfl
theorem e_12_4 : g_Pg 12 4 = ga_iload 3 5 := (congrFun pg_12 4).trans rfl
theorem q_12_4 {l0 l1 l2 : Value} {x : Int32} {S : List Value} {Z : gZ} {I : gI} {J : gJ} : g_at 12 4 [l0, l1, l2, .int x] S Z I J = g_at 12 5 [l0, l1, l2, .int x] (.int x :: S) Z I J := gq_iload e_12_4 rfl
theorem e_12_5 : g_Pg 12 5 = ga_aload 0 6 := (congrFun pg_12 5).trans rfl
theorem q_12_5 {l1 l2 l3 : Value} {x : Nat} {S : List Value} {Z : gZ} {I : gI} {J : gJ} : g_at 12 5 [.ref x, l1, l2, l3] S Z I J = g_at 12 6 [.ref x, l1, l2, l3] (.ref x :: S) Z I J := gq_aload e_12_5 rfl
theorem e_12_6 : g_Pg 12 6 = ga_getR 1 0 9 := (congrFun pg_12 6).trans rfl
theorem q_12_6 {L : List Value} {a : Nat} {S : List Value} {Z : gZ} {I : gI} {J : gJ} (h : (gKd Z a).1 = 1) (h1 : gRs Z a 0 = true) : g_at 12 6 L (.ref a :: S) Z I J = g_at 12 9 L (.ref (gRq Z a 0) :: S) Z I J := gq_getR e_12_6 h h1
theorem e_12_9 : g_Pg 12 9 = ga_getI 0 4 12 := (congrFun pg_12 9).trans rfl
theorem q_12_9 {L : List Value} {a : Nat} {S : List Value} {Z : gZ} {I : gI} {J : gJ} (h : (gKd Z a).1 = 0) : g_at 12 9 L (.ref a :: S) Z I J = g_at 12 12 L (.int (I a 4) :: S) Z I J := gq_getI e_12_9 h
theorem e_12_12 : g_Pg 12 12 = ga_cmp (fun x y => decide (y ≤ x)) 37 15 := (congrFun pg_12 12).trans rfl
theorem q_12_12 {L : List Value} {x y : Int32} {S : List Value} {Z : gZ} {I : gI} {J : gJ} : g_at 12 12 L (.int y :: .int x :: S) Z I J = if y ≤ x then g_at 12 37 L S Z I J else g_at 12 15 L S Z I J := gq_cmp e_12_12 rfl
theorem e_12_15 : g_Pg 12 15 = ga_aload 0 16 := (congrFun pg_12 15).trans rfl
theorem q_12_15 {l1 l2 l3 : Value} {x : Nat} {S : List Value} {Z : gZ} {I : gI} {J : gJ} : g_at 12 15 [.ref x, l1, l2, l3] S Z I J = g_at 12 16 [.ref x, l1, l2, l3] (.ref x :: S) Z I J := gq_aload e_12_15 rfl
theorem e_12_16 : g_Pg 12 16 = ga_iload 1 17 := (congrFun pg_12 16).trans rfl
theorem q_12_16 {l0 l2 l3 : Value} {x : Int32} {S : List Value} {Z : gZ} {I : gI} {J : gJ} : g_at 12 16 [l0, .int x, l2, l3] S Z I J = g_at 12 17 [l0, .int x, l2, l3] (.int x :: S) Z I J := gq_iload e_12_16 rfl
theorem e_12_17 : g_Pg 12 17 = ga_iload 3 18 := (congrFun pg_12 17).trans rfl
theorem q_12_17 {l0 l1 l2 : Value} {x : Int32} {S : List Value} {Z : gZ} {I : gI} {J : gJ} : g_at 12 17 [l0, l1, l2, .int x] S Z I J = g_at 12 18 [l0, l1, l2, .int x] (.int x :: S) Z I J := gq_iload e_12_17 rfl
theorem e_12_18 : g_Pg 12 18 = ga_callV 1 10 2 21 := (congrFun pg_12 18).trans rfl
theorem q_12_18 {L : List Value} {a0 : Int32} {a1 : Int32} {a2 : Nat} {Z : gZ} {I : gI} {J : gJ} (h : (gKd Z a2).1 = 1) : g_at 12 18 L [.int a0, .int a1, .ref a2] Z I J = (g_at 10 0 [.ref a2, .int a1, .int a0, .null] [] Z I J).bind (fun r => g_at 12 21 L (r.1.toList ++ []) r.2.1 r.2.2.1 r.2.2.2) := gq_callV e_12_18 rfl rfl h rfl rfl rfl rfl rfl
theorem e_12_21 : g_Pg 12 21 = ga_push (.int (-1)) 22 := (congrFun pg_12 21).trans rfl
theorem q_12_21 {L : List Value} {S : List Value} {Z : gZ} {I : gI} {J : gJ} : g_at 12 21 L S Z I J = g_at 12 22 L (.int (-1) :: S) Z I J := gq_push e_12_21
theorem e_12_22 : g_Pg 12 22 = ga_cmp (fun x y => decide (x = y)) 31 25 := (congrFun pg_12 22).trans rfl
theorem q_12_22 {L : List Value} {x y : Int32} {S : List Value} {Z : gZ} {I : gI} {J : gJ} : g_at 12 22 L (.int y :: .int x :: S) Z I J = if x = y then g_at 12 31 L S Z I J else g_at 12 25 L S Z I J := gq_cmp e_12_22 rfl
theorem e_12_25 : g_Pg 12 25 = ga_iload 2 26 := (congrFun pg_12 25).trans rfl
theorem q_12_25 {l0 l1 l3 : Value} {x : Int32} {S : List Value} {Z : gZ} {I : gI} {J : gJ} : g_at 12 25 [l0, l1, .int x, l3] S Z I J = g_at 12 26 [l0, l1, .int x, l3] (.int x :: S) Z I J := gq_iload e_12_25 rfl
theorem e_12_26 : g_Pg 12 26 = ga_push (.int 1) 27 := (congrFun pg_12 26).trans rfl
theorem q_12_26 {L : List Value} {S : List Value} {Z : gZ} {I : gI} {J : gJ} : g_at 12 26 L S Z I J = g_at 12 27 L (.int 1 :: S) Z I J := gq_push e_12_26
theorem e_12_27 : g_Pg 12 27 = ga_iload 3 28 := (congrFun pg_12 27).trans rfl
theorem q_12_27 {l0 l1 l2 : Value} {x : Int32} {S : List Value} {Z : gZ} {I : gI} {J : gJ} : g_at 12 27 [l0, l1, l2, .int x] S Z I J = g_at 12 28 [l0, l1, l2, .int x] (.int x :: S) Z I J := gq_iload e_12_27 rfl
theorem e_12_28 : g_Pg 12 28 = ga_bin (fun x y => x <<< (y &&& 31)) 29 := (congrFun pg_12 28).trans rfl
theorem q_12_28 {L : List Value} {x y : Int32} {S : List Value} {Z : gZ} {I : gI} {J : gJ} : g_at 12 28 L (.int y :: .int x :: S) Z I J = g_at 12 29 L (.int (x <<< (y &&& 31)) :: S) Z I J := gq_bin e_12_28
theorem e_12_29 : g_Pg 12 29 = ga_bin (fun x y => x ||| y) 30 := (congrFun pg_12 29).trans rfl
theorem q_12_29 {L : List Value} {x y : Int32} {S : List Value} {Z : gZ} {I : gI} {J : gJ} : g_at 12 29 L (.int y :: .int x :: S) Z I J = g_at 12 30 L (.int (x ||| y) :: S) Z I J := gq_bin e_12_29
theorem e_12_30 : g_Pg 12 30 = ga_istore 2 31 := (congrFun pg_12 30).trans rfl
theorem q_12_30 {l0 l1 l2 l3 : Value} {x : Int32} {S : List Value} {Z : gZ} {I : gI} {J : gJ} (h : gN1 l1 = true) : g_at 12 30 [l0, l1, l2, l3] (.int x :: S) Z I J = g_at 12 31 [l0, l1, .int x, l3] S Z I J := gq_istore e_12_30 h rfl rfl
theorem e_12_31 : g_Pg 12 31 = ga_iinc 3 1 34 := (congrFun pg_12 31).trans rfl
theorem q_12_31 {l0 l1 l2 : Value} {x : Int32} {S : List Value} {Z : gZ} {I : gI} {J : gJ} (h : gN1 l2 = true) : g_at 12 31 [l0, l1, l2, .int x] S Z I J = g_at 12 34 [l0, l1, l2, .int (x + 1)] S Z I J := gq_iinc e_12_31 rfl h rfl
theorem e_12_34 : g_Pg 12 34 = ga_goto 4 := (congrFun pg_12 34).trans rfl
theorem q_12_34 {L : List Value} {S : List Value} {Z : gZ} {I : gI} {J : gJ} : g_at 12 34 L S Z I J = g_at 12 4 L S Z I J := gq_goto e_12_34
theorem e_12_37 : g_Pg 12 37 = ga_iload 2 38 := (congrFun pg_12 37).trans rfl
theorem q_12_37 {l0 l1 l3 : Value} {x : Int32} {S : List Value} {Z : gZ} {I : gI} {J : gJ} : g_at 12 37 [l0, l1, .int x, l3] S Z I J = g_at 12 38 [l0, l1, .int x, l3] (.int x :: S) Z I J := gq_iload e_12_37 rfl
theorem e_12_38 : g_Pg 12 38 = ga_iret := (congrFun pg_12 38).trans rfl
theorem q_12_38 {L : List Value} {x : Int32} {Z : gZ} {I : gI} {J : gJ} : g_at 12 38 L [.int x] Z I J = some (some (.int x), Z, I, J) := gq_iret e_12_38
theorem e_13_0 : g_Pg 13 0 = ga_aload 0 1 := (congrFun pg_13 0).trans rfl
theorem q_13_0 {l1 l2 l3 : Value} {x : Nat} {S : List Value} {Z : gZ} {I : gI} {J : gJ} : g_at 13 0 [.ref x, l1, l2, l3] S Z I J = g_at 13 1 [.ref x, l1, l2, l3] (.ref x :: S) Z I J := gq_aload e_13_0 rfl
theorem e_13_1 : g_Pg 13 1 = ga_iload 1 2 := (congrFun pg_13 1).trans rfl
theorem q_13_1 {l0 l2 l3 : Value} {x : Int32} {S : List Value} {Z : gZ} {I : gI} {J : gJ} : g_at 13 1 [l0, .int x, l2, l3] S Z I J = g_at 13 2 [l0, .int x, l2, l3] (.int x :: S) Z I J := gq_iload e_13_1 rfl
theorem e_13_2 : g_Pg 13 2 = ga_callV 1 11 1 5 := (congrFun pg_13 2).trans rfl
theorem q_13_2 {L : List Value} {a0 : Int32} {a1 : Nat} {Z : gZ} {I : gI} {J : gJ} (h : (gKd Z a1).1 = 1) : g_at 13 2 L [.int a0, .ref a1] Z I J = (g_at 11 0 [.ref a1, .int a0, .null] [] Z I J).bind (fun r => g_at 13 5 L (r.1.toList ++ []) r.2.1 r.2.2.1 r.2.2.2) := gq_callV e_13_2 rfl rfl h rfl rfl rfl rfl rfl
theorem e_13_5 : g_Pg 13 5 = ga_push (.int (-1)) 6 := (congrFun pg_13 5).trans rfl
theorem q_13_5 {L : List Value} {S : List Value} {Z : gZ} {I : gI} {J : gJ} : g_at 13 5 L S Z I J = g_at 13 6 L (.int (-1) :: S) Z I J := gq_push e_13_5
theorem e_13_6 : g_Pg 13 6 = ga_cmp (fun x y => decide (x = y)) 11 9 := (congrFun pg_13 6).trans rfl
theorem q_13_6 {L : List Value} {x y : Int32} {S : List Value} {Z : gZ} {I : gI} {J : gJ} : g_at 13 6 L (.int y :: .int x :: S) Z I J = if x = y then g_at 13 11 L S Z I J else g_at 13 9 L S Z I J := gq_cmp e_13_6 rfl
theorem e_13_9 : g_Pg 13 9 = ga_push (.int (-1)) 10 := (congrFun pg_13 9).trans rfl
theorem q_13_9 {L : List Value} {S : List Value} {Z : gZ} {I : gI} {J : gJ} : g_at 13 9 L S Z I J = g_at 13 10 L (.int (-1) :: S) Z I J := gq_push e_13_9
theorem e_13_10 : g_Pg 13 10 = ga_iret := (congrFun pg_13 10).trans rfl
theorem q_13_10 {L : List Value} {x : Int32} {Z : gZ} {I : gI} {J : gJ} : g_at 13 10 L [.int x] Z I J = some (some (.int x), Z, I, J) := gq_iret e_13_10
theorem e_13_11 : g_Pg 13 11 = ga_push (.int 0) 12 := (congrFun pg_13 11).trans rfl
theorem q_13_11 {L : List Value} {S : List Value} {Z : gZ} {I : gI} {J : gJ} : g_at 13 11 L S Z I J = g_at 13 12 L (.int 0 :: S) Z I J := gq_push e_13_11
theorem e_13_12 : g_Pg 13 12 = ga_istore 2 13 := (congrFun pg_13 12).trans rfl
theorem q_13_12 {l0 l1 l2 l3 : Value} {x : Int32} {S : List Value} {Z : gZ} {I : gI} {J : gJ} (h : gN1 l1 = true) : g_at 13 12 [l0, l1, l2, l3] (.int x :: S) Z I J = g_at 13 13 [l0, l1, .int x, l3] S Z I J := gq_istore e_13_12 h rfl rfl
theorem e_13_13 : g_Pg 13 13 = ga_push (.int 0) 14 := (congrFun pg_13 13).trans rfl
theorem q_13_13 {L : List Value} {S : List Value} {Z : gZ} {I : gI} {J : gJ} : g_at 13 13 L S Z I J = g_at 13 14 L (.int 0 :: S) Z I J := gq_push e_13_13
theorem e_13_14 : g_Pg 13 14 = ga_istore 3 15 := (congrFun pg_13 14).trans rfl
theorem q_13_14 {l0 l1 l2 l3 : Value} {x : Int32} {S : List Value} {Z : gZ} {I : gI} {J : gJ} (h : gN1 l2 = true) : g_at 13 14 [l0, l1, l2, l3] (.int x :: S) Z I J = g_at 13 15 [l0, l1, l2, .int x] S Z I J := gq_istore e_13_14 h rfl rfl
theorem e_13_15 : g_Pg 13 15 = ga_iload 3 16 := (congrFun pg_13 15).trans rfl
theorem q_13_15 {l0 l1 l2 : Value} {x : Int32} {S : List Value} {Z : gZ} {I : gI} {J : gJ} : g_at 13 15 [l0, l1, l2, .int x] S Z I J = g_at 13 16 [l0, l1, l2, .int x] (.int x :: S) Z I J := gq_iload e_13_15 rfl
theorem e_13_16 : g_Pg 13 16 = ga_aload 0 17 := (congrFun pg_13 16).trans rfl
theorem q_13_16 {l1 l2 l3 : Value} {x : Nat} {S : List Value} {Z : gZ} {I : gI} {J : gJ} : g_at 13 16 [.ref x, l1, l2, l3] S Z I J = g_at 13 17 [.ref x, l1, l2, l3] (.ref x :: S) Z I J := gq_aload e_13_16 rfl
theorem e_13_17 : g_Pg 13 17 = ga_getR 1 0 20 := (congrFun pg_13 17).trans rfl
theorem q_13_17 {L : List Value} {a : Nat} {S : List Value} {Z : gZ} {I : gI} {J : gJ} (h : (gKd Z a).1 = 1) (h1 : gRs Z a 0 = true) : g_at 13 17 L (.ref a :: S) Z I J = g_at 13 20 L (.ref (gRq Z a 0) :: S) Z I J := gq_getR e_13_17 h h1
theorem e_13_20 : g_Pg 13 20 = ga_getI 0 4 23 := (congrFun pg_13 20).trans rfl
theorem q_13_20 {L : List Value} {a : Nat} {S : List Value} {Z : gZ} {I : gI} {J : gJ} (h : (gKd Z a).1 = 0) : g_at 13 20 L (.ref a :: S) Z I J = g_at 13 23 L (.int (I a 4) :: S) Z I J := gq_getI e_13_20 h
theorem e_13_23 : g_Pg 13 23 = ga_cmp (fun x y => decide (y ≤ x)) 43 26 := (congrFun pg_13 23).trans rfl
theorem q_13_23 {L : List Value} {x y : Int32} {S : List Value} {Z : gZ} {I : gI} {J : gJ} : g_at 13 23 L (.int y :: .int x :: S) Z I J = if y ≤ x then g_at 13 43 L S Z I J else g_at 13 26 L S Z I J := gq_cmp e_13_23 rfl
theorem e_13_26 : g_Pg 13 26 = ga_iload 2 27 := (congrFun pg_13 26).trans rfl
theorem q_13_26 {l0 l1 l3 : Value} {x : Int32} {S : List Value} {Z : gZ} {I : gI} {J : gJ} : g_at 13 26 [l0, l1, .int x, l3] S Z I J = g_at 13 27 [l0, l1, .int x, l3] (.int x :: S) Z I J := gq_iload e_13_26 rfl
theorem e_13_27 : g_Pg 13 27 = ga_aload 0 28 := (congrFun pg_13 27).trans rfl
theorem q_13_27 {l1 l2 l3 : Value} {x : Nat} {S : List Value} {Z : gZ} {I : gI} {J : gJ} : g_at 13 27 [.ref x, l1, l2, l3] S Z I J = g_at 13 28 [.ref x, l1, l2, l3] (.ref x :: S) Z I J := gq_aload e_13_27 rfl
theorem e_13_28 : g_Pg 13 28 = ga_iload 1 29 := (congrFun pg_13 28).trans rfl
theorem q_13_28 {l0 l2 l3 : Value} {x : Int32} {S : List Value} {Z : gZ} {I : gI} {J : gJ} : g_at 13 28 [l0, .int x, l2, l3] S Z I J = g_at 13 29 [l0, .int x, l2, l3] (.int x :: S) Z I J := gq_iload e_13_28 rfl
theorem e_13_29 : g_Pg 13 29 = ga_iload 3 30 := (congrFun pg_13 29).trans rfl
theorem q_13_29 {l0 l1 l2 : Value} {x : Int32} {S : List Value} {Z : gZ} {I : gI} {J : gJ} : g_at 13 29 [l0, l1, l2, .int x] S Z I J = g_at 13 30 [l0, l1, l2, .int x] (.int x :: S) Z I J := gq_iload e_13_29 rfl
theorem e_13_30 : g_Pg 13 30 = ga_callV 1 10 2 33 := (congrFun pg_13 30).trans rfl
theorem q_13_30 {L : List Value} {a0 : Int32} {a1 : Int32} {a2 : Nat} {r3 : Int32} {Z : gZ} {I : gI} {J : gJ} (h : (gKd Z a2).1 = 1) : g_at 13 30 L [.int a0, .int a1, .ref a2, .int r3] Z I J = (g_at 10 0 [.ref a2, .int a1, .int a0, .null] [] Z I J).bind (fun r => g_at 13 33 L (r.1.toList ++ [.int r3]) r.2.1 r.2.2.1 r.2.2.2) := gq_callV e_13_30 rfl rfl h rfl rfl rfl rfl rfl
theorem e_13_33 : g_Pg 13 33 = ga_max 36 := (congrFun pg_13 33).trans rfl
theorem q_13_33 {L : List Value} {x y : Int32} {Z : gZ} {I : gI} {J : gJ} : g_at 13 33 L [.int y, .int x] Z I J = g_at 13 36 L [.int (if x < y then y else x)] Z I J := gq_max e_13_33
theorem e_13_36 : g_Pg 13 36 = ga_istore 2 37 := (congrFun pg_13 36).trans rfl
theorem q_13_36 {l0 l1 l2 l3 : Value} {x : Int32} {S : List Value} {Z : gZ} {I : gI} {J : gJ} (h : gN1 l1 = true) : g_at 13 36 [l0, l1, l2, l3] (.int x :: S) Z I J = g_at 13 37 [l0, l1, .int x, l3] S Z I J := gq_istore e_13_36 h rfl rfl
theorem e_13_37 : g_Pg 13 37 = ga_iinc 3 1 40 := (congrFun pg_13 37).trans rfl
theorem q_13_37 {l0 l1 l2 : Value} {x : Int32} {S : List Value} {Z : gZ} {I : gI} {J : gJ} (h : gN1 l2 = true) : g_at 13 37 [l0, l1, l2, .int x] S Z I J = g_at 13 40 [l0, l1, l2, .int (x + 1)] S Z I J := gq_iinc e_13_37 rfl h rfl
theorem e_13_40 : g_Pg 13 40 = ga_goto 15 := (congrFun pg_13 40).trans rfl
theorem q_13_40 {L : List Value} {S : List Value} {Z : gZ} {I : gI} {J : gJ} : g_at 13 40 L S Z I J = g_at 13 15 L S Z I J := gq_goto e_13_40
theorem e_13_43 : g_Pg 13 43 = ga_iload 2 44 := (congrFun pg_13 43).trans rfl
theorem q_13_43 {l0 l1 l3 : Value} {x : Int32} {S : List Value} {Z : gZ} {I : gI} {J : gJ} : g_at 13 43 [l0, l1, .int x, l3] S Z I J = g_at 13 44 [l0, l1, .int x, l3] (.int x :: S) Z I J := gq_iload e_13_43 rfl
theorem e_13_44 : g_Pg 13 44 = ga_iret := (congrFun pg_13 44).trans rfl
theorem q_13_44 {L : List Value} {x : Int32} {Z : gZ} {I : gI} {J : gJ} : g_at 13 44 L [.int x] Z I J = some (some (.int x), Z, I, J) := gq_iret e_13_44
theorem e_14_0 : g_Pg 14 0 = ga_aload 0 1 := (congrFun pg_14 0).trans rfl
theorem q_14_0 {l1 l2 l3 l4 l5 : Value} {x : Nat} {S : List Value} {Z : gZ} {I : gI} {J : gJ} : g_at 14 0 [.ref x, l1, l2, l3, l4, l5] S Z I J = g_at 14 1 [.ref x, l1, l2, l3, l4, l5] (.ref x :: S) Z I J := gq_aload e_14_0 rfl
theorem e_14_1 : g_Pg 14 1 = ga_getR 1 2 4 := (congrFun pg_14 1).trans rfl
theorem q_14_1 {L : List Value} {a : Nat} {S : List Value} {Z : gZ} {I : gI} {J : gJ} (h : (gKd Z a).1 = 1) (h1 : gRs Z a 2 = true) : g_at 14 1 L (.ref a :: S) Z I J = g_at 14 4 L (.ref (gRq Z a 2) :: S) Z I J := gq_getR e_14_1 h h1
theorem e_14_4 : g_Pg 14 4 = ga_aload 0 5 := (congrFun pg_14 4).trans rfl
theorem q_14_4 {l1 l2 l3 l4 l5 : Value} {x : Nat} {S : List Value} {Z : gZ} {I : gI} {J : gJ} : g_at 14 4 [.ref x, l1, l2, l3, l4, l5] S Z I J = g_at 14 5 [.ref x, l1, l2, l3, l4, l5] (.ref x :: S) Z I J := gq_aload e_14_4 rfl
theorem e_14_5 : g_Pg 14 5 = ga_getR 1 0 8 := (congrFun pg_14 5).trans rfl
theorem q_14_5 {L : List Value} {a : Nat} {S : List Value} {Z : gZ} {I : gI} {J : gJ} (h : (gKd Z a).1 = 1) (h1 : gRs Z a 0 = true) : g_at 14 5 L (.ref a :: S) Z I J = g_at 14 8 L (.ref (gRq Z a 0) :: S) Z I J := gq_getR e_14_5 h h1
theorem e_14_8 : g_Pg 14 8 = ga_aload 0 9 := (congrFun pg_14 8).trans rfl
theorem q_14_8 {l1 l2 l3 l4 l5 : Value} {x : Nat} {S : List Value} {Z : gZ} {I : gI} {J : gJ} : g_at 14 8 [.ref x, l1, l2, l3, l4, l5] S Z I J = g_at 14 9 [.ref x, l1, l2, l3, l4, l5] (.ref x :: S) Z I J := gq_aload e_14_8 rfl
theorem e_14_9 : g_Pg 14 9 = ga_getI 1 3 12 := (congrFun pg_14 9).trans rfl
theorem q_14_9 {L : List Value} {a : Nat} {S : List Value} {Z : gZ} {I : gI} {J : gJ} (h : (gKd Z a).1 = 1) : g_at 14 9 L (.ref a :: S) Z I J = g_at 14 12 L (.int (I a 3) :: S) Z I J := gq_getI e_14_9 h
theorem e_14_12 : g_Pg 14 12 = ga_aload 0 13 := (congrFun pg_14 12).trans rfl
theorem q_14_12 {l1 l2 l3 l4 l5 : Value} {x : Nat} {S : List Value} {Z : gZ} {I : gI} {J : gJ} : g_at 14 12 [.ref x, l1, l2, l3, l4, l5] S Z I J = g_at 14 13 [.ref x, l1, l2, l3, l4, l5] (.ref x :: S) Z I J := gq_aload e_14_12 rfl
theorem e_14_13 : g_Pg 14 13 = ga_getI 1 4 16 := (congrFun pg_14 13).trans rfl
theorem q_14_13 {L : List Value} {a : Nat} {S : List Value} {Z : gZ} {I : gI} {J : gJ} (h : (gKd Z a).1 = 1) : g_at 14 13 L (.ref a :: S) Z I J = g_at 14 16 L (.int (I a 4) :: S) Z I J := gq_getI e_14_13 h
theorem e_14_16 : g_Pg 14 16 = ga_iload 1 17 := (congrFun pg_14 16).trans rfl
theorem q_14_16 {l0 l2 l3 l4 l5 : Value} {x : Int32} {S : List Value} {Z : gZ} {I : gI} {J : gJ} : g_at 14 16 [l0, .int x, l2, l3, l4, l5] S Z I J = g_at 14 17 [l0, .int x, l2, l3, l4, l5] (.int x :: S) Z I J := gq_iload e_14_16 rfl
theorem e_14_17 : g_Pg 14 17 = ga_iload 1 18 := (congrFun pg_14 17).trans rfl
theorem q_14_17 {l0 l2 l3 l4 l5 : Value} {x : Int32} {S : List Value} {Z : gZ} {I : gI} {J : gJ} : g_at 14 17 [l0, .int x, l2, l3, l4, l5] S Z I J = g_at 14 18 [l0, .int x, l2, l3, l4, l5] (.int x :: S) Z I J := gq_iload e_14_17 rfl
theorem e_14_18 : g_Pg 14 18 = ga_callV 5 51 5 21 := (congrFun pg_14 18).trans rfl
theorem q_14_18 {L : List Value} {a0 : Int32} {a1 : Int32} {a2 : Int32} {a3 : Int32} {a4 : Nat} {a5 : Nat} {Z : gZ} {I : gI} {J : gJ} (h : (gKd Z a5).1 = 5) : g_at 14 18 L [.int a0, .int a1, .int a2, .int a3, .ref a4, .ref a5] Z I J = (g_at 51 0 [.ref a5, .ref a4, .int a3, .int a2, .int a1, .int a0, .null, .null] [] Z I J).bind (fun r => g_at 14 21 L (r.1.toList ++ []) r.2.1 r.2.2.1 r.2.2.2) := gq_callV e_14_18 rfl rfl h rfl rfl rfl rfl rfl
theorem e_14_21 : g_Pg 14 21 = ga_istore 4 23 := (congrFun pg_14 21).trans rfl
theorem q_14_21 {l0 l1 l2 l3 l4 l5 : Value} {x : Int32} {S : List Value} {Z : gZ} {I : gI} {J : gJ} (h : gN1 l3 = true) : g_at 14 21 [l0, l1, l2, l3, l4, l5] (.int x :: S) Z I J = g_at 14 23 [l0, l1, l2, l3, .int x, l5] S Z I J := gq_istore e_14_21 h rfl rfl
theorem e_14_23 : g_Pg 14 23 = ga_iload 4 25 := (congrFun pg_14 23).trans rfl
theorem q_14_23 {l0 l1 l2 l3 l5 : Value} {x : Int32} {S : List Value} {Z : gZ} {I : gI} {J : gJ} : g_at 14 23 [l0, l1, l2, l3, .int x, l5] S Z I J = g_at 14 25 [l0, l1, l2, l3, .int x, l5] (.int x :: S) Z I J := gq_iload e_14_23 rfl
theorem e_14_25 : g_Pg 14 25 = ga_if (fun x => decide (x = 0)) 40 28 := (congrFun pg_14 25).trans rfl
theorem q_14_25 {L : List Value} {x : Int32} {S : List Value} {Z : gZ} {I : gI} {J : gJ} : g_at 14 25 L (.int x :: S) Z I J = if x = 0 then g_at 14 40 L S Z I J else g_at 14 28 L S Z I J := gq_if e_14_25 rfl
theorem e_14_28 : g_Pg 14 28 = ga_aload 0 29 := (congrFun pg_14 28).trans rfl
theorem q_14_28 {l1 l2 l3 l4 l5 : Value} {x : Nat} {S : List Value} {Z : gZ} {I : gI} {J : gJ} : g_at 14 28 [.ref x, l1, l2, l3, l4, l5] S Z I J = g_at 14 29 [.ref x, l1, l2, l3, l4, l5] (.ref x :: S) Z I J := gq_aload e_14_28 rfl
theorem e_14_29 : g_Pg 14 29 = ga_getR 1 2 32 := (congrFun pg_14 29).trans rfl
theorem q_14_29 {L : List Value} {a : Nat} {S : List Value} {Z : gZ} {I : gI} {J : gJ} (h : (gKd Z a).1 = 1) (h1 : gRs Z a 2 = true) : g_at 14 29 L (.ref a :: S) Z I J = g_at 14 32 L (.ref (gRq Z a 2) :: S) Z I J := gq_getR e_14_29 h h1
theorem e_14_32 : g_Pg 14 32 = ga_getI 5 1 35 := (congrFun pg_14 32).trans rfl
theorem q_14_32 {L : List Value} {a : Nat} {S : List Value} {Z : gZ} {I : gI} {J : gJ} (h : (gKd Z a).1 = 5) : g_at 14 32 L (.ref a :: S) Z I J = g_at 14 35 L (.int (I a 1) :: S) Z I J := gq_getI e_14_32 h
theorem e_14_35 : g_Pg 14 35 = ga_if (fun x => decide (¬ x = 0)) 40 38 := (congrFun pg_14 35).trans rfl
theorem q_14_35 {L : List Value} {x : Int32} {S : List Value} {Z : gZ} {I : gI} {J : gJ} : g_at 14 35 L (.int x :: S) Z I J = if ¬ x = 0 then g_at 14 40 L S Z I J else g_at 14 38 L S Z I J := gq_if e_14_35 rfl
theorem e_14_38 : g_Pg 14 38 = ga_push (.int (-1)) 39 := (congrFun pg_14 38).trans rfl
theorem q_14_38 {L : List Value} {S : List Value} {Z : gZ} {I : gI} {J : gJ} : g_at 14 38 L S Z I J = g_at 14 39 L (.int (-1) :: S) Z I J := gq_push e_14_38
theorem e_14_39 : g_Pg 14 39 = ga_iret := (congrFun pg_14 39).trans rfl
theorem q_14_39 {L : List Value} {x : Int32} {Z : gZ} {I : gI} {J : gJ} : g_at 14 39 L [.int x] Z I J = some (some (.int x), Z, I, J) := gq_iret e_14_39
theorem e_14_40 : g_Pg 14 40 = ga_iload 4 42 := (congrFun pg_14 40).trans rfl
theorem q_14_40 {l0 l1 l2 l3 l5 : Value} {x : Int32} {S : List Value} {Z : gZ} {I : gI} {J : gJ} : g_at 14 40 [l0, l1, l2, l3, .int x, l5] S Z I J = g_at 14 42 [l0, l1, l2, l3, .int x, l5] (.int x :: S) Z I J := gq_iload e_14_40 rfl
theorem e_14_42 : g_Pg 14 42 = ga_if (fun x => decide (x = 0)) 59 45 := (congrFun pg_14 42).trans rfl
theorem q_14_42 {L : List Value} {x : Int32} {S : List Value} {Z : gZ} {I : gI} {J : gJ} : g_at 14 42 L (.int x :: S) Z I J = if x = 0 then g_at 14 59 L S Z I J else g_at 14 45 L S Z I J := gq_if e_14_42 rfl
theorem e_14_45 : g_Pg 14 45 = ga_iload 3 46 := (congrFun pg_14 45).trans rfl
theorem q_14_45 {l0 l1 l2 l4 l5 : Value} {x : Int32} {S : List Value} {Z : gZ} {I : gI} {J : gJ} : g_at 14 45 [l0, l1, l2, .int x, l4, l5] S Z I J = g_at 14 46 [l0, l1, l2, .int x, l4, l5] (.int x :: S) Z I J := gq_iload e_14_45 rfl
theorem e_14_46 : g_Pg 14 46 = ga_aload 0 47 := (congrFun pg_14 46).trans rfl
theorem q_14_46 {l1 l2 l3 l4 l5 : Value} {x : Nat} {S : List Value} {Z : gZ} {I : gI} {J : gJ} : g_at 14 46 [.ref x, l1, l2, l3, l4, l5] S Z I J = g_at 14 47 [.ref x, l1, l2, l3, l4, l5] (.ref x :: S) Z I J := gq_aload e_14_46 rfl
theorem e_14_47 : g_Pg 14 47 = ga_getR 1 2 50 := (congrFun pg_14 47).trans rfl
theorem q_14_47 {L : List Value} {a : Nat} {S : List Value} {Z : gZ} {I : gI} {J : gJ} (h : (gKd Z a).1 = 1) (h1 : gRs Z a 2 = true) : g_at 14 47 L (.ref a :: S) Z I J = g_at 14 50 L (.ref (gRq Z a 2) :: S) Z I J := gq_getR e_14_47 h h1
theorem e_14_50 : g_Pg 14 50 = ga_getI 5 1 53 := (congrFun pg_14 50).trans rfl
theorem q_14_50 {L : List Value} {a : Nat} {S : List Value} {Z : gZ} {I : gI} {J : gJ} (h : (gKd Z a).1 = 5) : g_at 14 50 L (.ref a :: S) Z I J = g_at 14 53 L (.int (I a 1) :: S) Z I J := gq_getI e_14_50 h
theorem e_14_53 : g_Pg 14 53 = ga_call 15 2 56 := (congrFun pg_14 53).trans rfl
theorem q_14_53 {L : List Value} {a0 : Int32} {a1 : Int32} {Z : gZ} {I : gI} {J : gJ} : g_at 14 53 L [.int a0, .int a1] Z I J = (g_at 15 0 [.int a1, .int a0, .null, .null, .null] [] Z I J).bind (fun r => g_at 14 56 L (r.1.toList ++ []) r.2.1 r.2.2.1 r.2.2.2) := gq_call e_14_53 rfl rfl rfl rfl rfl
theorem e_14_56 : g_Pg 14 56 = ga_goto 60 := (congrFun pg_14 56).trans rfl
theorem q_14_56 {L : List Value} {S : List Value} {Z : gZ} {I : gI} {J : gJ} : g_at 14 56 L S Z I J = g_at 14 60 L S Z I J := gq_goto e_14_56
theorem e_14_59 : g_Pg 14 59 = ga_iload 3 60 := (congrFun pg_14 59).trans rfl
theorem q_14_59 {l0 l1 l2 l4 l5 : Value} {x : Int32} {S : List Value} {Z : gZ} {I : gI} {J : gJ} : g_at 14 59 [l0, l1, l2, .int x, l4, l5] S Z I J = g_at 14 60 [l0, l1, l2, .int x, l4, l5] (.int x :: S) Z I J := gq_iload e_14_59 rfl
theorem e_14_60 : g_Pg 14 60 = ga_istore 5 62 := (congrFun pg_14 60).trans rfl
theorem q_14_60 {l0 l1 l2 l3 l4 l5 : Value} {x : Int32} {S : List Value} {Z : gZ} {I : gI} {J : gJ} (h : gN1 l4 = true) : g_at 14 60 [l0, l1, l2, l3, l4, l5] (.int x :: S) Z I J = g_at 14 62 [l0, l1, l2, l3, l4, .int x] S Z I J := gq_istore e_14_60 h rfl rfl
theorem e_14_62 : g_Pg 14 62 = ga_iload 2 63 := (congrFun pg_14 62).trans rfl
theorem q_14_62 {l0 l1 l3 l4 l5 : Value} {x : Int32} {S : List Value} {Z : gZ} {I : gI} {J : gJ} : g_at 14 62 [l0, l1, .int x, l3, l4, l5] S Z I J = g_at 14 63 [l0, l1, .int x, l3, l4, l5] (.int x :: S) Z I J := gq_iload e_14_62 rfl
theorem e_14_63 : g_Pg 14 63 = ga_iload 1 64 := (congrFun pg_14 63).trans rfl
theorem q_14_63 {l0 l2 l3 l4 l5 : Value} {x : Int32} {S : List Value} {Z : gZ} {I : gI} {J : gJ} : g_at 14 63 [l0, .int x, l2, l3, l4, l5] S Z I J = g_at 14 64 [l0, .int x, l2, l3, l4, l5] (.int x :: S) Z I J := gq_iload e_14_63 rfl
theorem e_14_64 : g_Pg 14 64 = ga_cmp (fun x y => decide (¬ x = y)) 70 67 := (congrFun pg_14 64).trans rfl
theorem q_14_64 {L : List Value} {x y : Int32} {S : List Value} {Z : gZ} {I : gI} {J : gJ} : g_at 14 64 L (.int y :: .int x :: S) Z I J = if ¬ x = y then g_at 14 70 L S Z I J else g_at 14 67 L S Z I J := gq_cmp e_14_64 rfl
theorem e_14_67 : g_Pg 14 67 = ga_iload 5 69 := (congrFun pg_14 67).trans rfl
theorem q_14_67 {l0 l1 l2 l3 l4 : Value} {x : Int32} {S : List Value} {Z : gZ} {I : gI} {J : gJ} : g_at 14 67 [l0, l1, l2, l3, l4, .int x] S Z I J = g_at 14 69 [l0, l1, l2, l3, l4, .int x] (.int x :: S) Z I J := gq_iload e_14_67 rfl
theorem e_14_69 : g_Pg 14 69 = ga_iret := (congrFun pg_14 69).trans rfl
theorem q_14_69 {L : List Value} {x : Int32} {Z : gZ} {I : gI} {J : gJ} : g_at 14 69 L [.int x] Z I J = some (some (.int x), Z, I, J) := gq_iret e_14_69
theorem e_14_70 : g_Pg 14 70 = ga_aload 0 71 := (congrFun pg_14 70).trans rfl
theorem q_14_70 {l1 l2 l3 l4 l5 : Value} {x : Nat} {S : List Value} {Z : gZ} {I : gI} {J : gJ} : g_at 14 70 [.ref x, l1, l2, l3, l4, l5] S Z I J = g_at 14 71 [.ref x, l1, l2, l3, l4, l5] (.ref x :: S) Z I J := gq_aload e_14_70 rfl
theorem e_14_71 : g_Pg 14 71 = ga_getR 1 1 74 := (congrFun pg_14 71).trans rfl
theorem q_14_71 {L : List Value} {a : Nat} {S : List Value} {Z : gZ} {I : gI} {J : gJ} (h : (gKd Z a).1 = 1) (h1 : gRs Z a 1 = true) : g_at 14 71 L (.ref a :: S) Z I J = g_at 14 74 L (.ref (gRq Z a 1) :: S) Z I J := gq_getR e_14_71 h h1
theorem e_14_74 : g_Pg 14 74 = ga_aload 0 75 := (congrFun pg_14 74).trans rfl
theorem q_14_74 {l1 l2 l3 l4 l5 : Value} {x : Nat} {S : List Value} {Z : gZ} {I : gI} {J : gJ} : g_at 14 74 [.ref x, l1, l2, l3, l4, l5] S Z I J = g_at 14 75 [.ref x, l1, l2, l3, l4, l5] (.ref x :: S) Z I J := gq_aload e_14_74 rfl
theorem e_14_75 : g_Pg 14 75 = ga_getR 1 0 78 := (congrFun pg_14 75).trans rfl
theorem q_14_75 {L : List Value} {a : Nat} {S : List Value} {Z : gZ} {I : gI} {J : gJ} (h : (gKd Z a).1 = 1) (h1 : gRs Z a 0 = true) : g_at 14 75 L (.ref a :: S) Z I J = g_at 14 78 L (.ref (gRq Z a 0) :: S) Z I J := gq_getR e_14_75 h h1
theorem e_14_78 : g_Pg 14 78 = ga_aload 0 79 := (congrFun pg_14 78).trans rfl
theorem q_14_78 {l1 l2 l3 l4 l5 : Value} {x : Nat} {S : List Value} {Z : gZ} {I : gI} {J : gJ} : g_at 14 78 [.ref x, l1, l2, l3, l4, l5] S Z I J = g_at 14 79 [.ref x, l1, l2, l3, l4, l5] (.ref x :: S) Z I J := gq_aload e_14_78 rfl
theorem e_14_79 : g_Pg 14 79 = ga_getI 1 3 82 := (congrFun pg_14 79).trans rfl
theorem q_14_79 {L : List Value} {a : Nat} {S : List Value} {Z : gZ} {I : gI} {J : gJ} (h : (gKd Z a).1 = 1) : g_at 14 79 L (.ref a :: S) Z I J = g_at 14 82 L (.int (I a 3) :: S) Z I J := gq_getI e_14_79 h
theorem e_14_82 : g_Pg 14 82 = ga_aload 0 83 := (congrFun pg_14 82).trans rfl
theorem q_14_82 {l1 l2 l3 l4 l5 : Value} {x : Nat} {S : List Value} {Z : gZ} {I : gI} {J : gJ} : g_at 14 82 [.ref x, l1, l2, l3, l4, l5] S Z I J = g_at 14 83 [.ref x, l1, l2, l3, l4, l5] (.ref x :: S) Z I J := gq_aload e_14_82 rfl
theorem e_14_83 : g_Pg 14 83 = ga_getI 1 4 86 := (congrFun pg_14 83).trans rfl
theorem q_14_83 {L : List Value} {a : Nat} {S : List Value} {Z : gZ} {I : gI} {J : gJ} (h : (gKd Z a).1 = 1) : g_at 14 83 L (.ref a :: S) Z I J = g_at 14 86 L (.int (I a 4) :: S) Z I J := gq_getI e_14_83 h
theorem e_14_86 : g_Pg 14 86 = ga_iload 1 87 := (congrFun pg_14 86).trans rfl
theorem q_14_86 {l0 l2 l3 l4 l5 : Value} {x : Int32} {S : List Value} {Z : gZ} {I : gI} {J : gJ} : g_at 14 86 [l0, .int x, l2, l3, l4, l5] S Z I J = g_at 14 87 [l0, .int x, l2, l3, l4, l5] (.int x :: S) Z I J := gq_iload e_14_86 rfl
theorem e_14_87 : g_Pg 14 87 = ga_iload 2 88 := (congrFun pg_14 87).trans rfl
theorem q_14_87 {l0 l1 l3 l4 l5 : Value} {x : Int32} {S : List Value} {Z : gZ} {I : gI} {J : gJ} : g_at 14 87 [l0, l1, .int x, l3, l4, l5] S Z I J = g_at 14 88 [l0, l1, .int x, l3, l4, l5] (.int x :: S) Z I J := gq_iload e_14_87 rfl
theorem e_14_88 : g_Pg 14 88 = ga_callV 5 51 5 91 := (congrFun pg_14 88).trans rfl
theorem q_14_88 {L : List Value} {a0 : Int32} {a1 : Int32} {a2 : Int32} {a3 : Int32} {a4 : Nat} {a5 : Nat} {Z : gZ} {I : gI} {J : gJ} (h : (gKd Z a5).1 = 5) : g_at 14 88 L [.int a0, .int a1, .int a2, .int a3, .ref a4, .ref a5] Z I J = (g_at 51 0 [.ref a5, .ref a4, .int a3, .int a2, .int a1, .int a0, .null, .null] [] Z I J).bind (fun r => g_at 14 91 L (r.1.toList ++ []) r.2.1 r.2.2.1 r.2.2.2) := gq_callV e_14_88 rfl rfl h rfl rfl rfl rfl rfl
theorem e_14_91 : g_Pg 14 91 = ga_if (fun x => decide (x = 0)) 107 94 := (congrFun pg_14 91).trans rfl
theorem q_14_91 {L : List Value} {x : Int32} {S : List Value} {Z : gZ} {I : gI} {J : gJ} : g_at 14 91 L (.int x :: S) Z I J = if x = 0 then g_at 14 107 L S Z I J else g_at 14 94 L S Z I J := gq_if e_14_91 rfl
theorem e_14_94 : g_Pg 14 94 = ga_iload 5 96 := (congrFun pg_14 94).trans rfl
theorem q_14_94 {l0 l1 l2 l3 l4 : Value} {x : Int32} {S : List Value} {Z : gZ} {I : gI} {J : gJ} : g_at 14 94 [l0, l1, l2, l3, l4, .int x] S Z I J = g_at 14 96 [l0, l1, l2, l3, l4, .int x] (.int x :: S) Z I J := gq_iload e_14_94 rfl
theorem e_14_96 : g_Pg 14 96 = ga_aload 0 97 := (congrFun pg_14 96).trans rfl
theorem q_14_96 {l1 l2 l3 l4 l5 : Value} {x : Nat} {S : List Value} {Z : gZ} {I : gI} {J : gJ} : g_at 14 96 [.ref x, l1, l2, l3, l4, l5] S Z I J = g_at 14 97 [.ref x, l1, l2, l3, l4, l5] (.ref x :: S) Z I J := gq_aload e_14_96 rfl
theorem e_14_97 : g_Pg 14 97 = ga_getR 1 1 100 := (congrFun pg_14 97).trans rfl
theorem q_14_97 {L : List Value} {a : Nat} {S : List Value} {Z : gZ} {I : gI} {J : gJ} (h : (gKd Z a).1 = 1) (h1 : gRs Z a 1 = true) : g_at 14 97 L (.ref a :: S) Z I J = g_at 14 100 L (.ref (gRq Z a 1) :: S) Z I J := gq_getR e_14_97 h h1
theorem e_14_100 : g_Pg 14 100 = ga_getI 5 1 103 := (congrFun pg_14 100).trans rfl
theorem q_14_100 {L : List Value} {a : Nat} {S : List Value} {Z : gZ} {I : gI} {J : gJ} (h : (gKd Z a).1 = 5) : g_at 14 100 L (.ref a :: S) Z I J = g_at 14 103 L (.int (I a 1) :: S) Z I J := gq_getI e_14_100 h
theorem e_14_103 : g_Pg 14 103 = ga_bin (fun x y => x >>> (y &&& 31)) 104 := (congrFun pg_14 103).trans rfl
theorem q_14_103 {L : List Value} {x y : Int32} {S : List Value} {Z : gZ} {I : gI} {J : gJ} : g_at 14 103 L (.int y :: .int x :: S) Z I J = g_at 14 104 L (.int (x >>> (y &&& 31)) :: S) Z I J := gq_bin e_14_103
theorem e_14_104 : g_Pg 14 104 = ga_goto 108 := (congrFun pg_14 104).trans rfl
theorem q_14_104 {L : List Value} {S : List Value} {Z : gZ} {I : gI} {J : gJ} : g_at 14 104 L S Z I J = g_at 14 108 L S Z I J := gq_goto e_14_104
theorem e_14_107 : g_Pg 14 107 = ga_push (.int 0) 108 := (congrFun pg_14 107).trans rfl
theorem q_14_107 {L : List Value} {S : List Value} {Z : gZ} {I : gI} {J : gJ} : g_at 14 107 L S Z I J = g_at 14 108 L (.int 0 :: S) Z I J := gq_push e_14_107
theorem e_14_108 : g_Pg 14 108 = ga_iret := (congrFun pg_14 108).trans rfl
theorem q_14_108 {L : List Value} {x : Int32} {Z : gZ} {I : gI} {J : gJ} : g_at 14 108 L [.int x] Z I J = some (some (.int x), Z, I, J) := gq_iret e_14_108
theorem e_15_0 : g_Pg 15 0 = ga_push (.int 1) 1 := (congrFun pg_15 0).trans rfl
theorem q_15_0 {L : List Value} {S : List Value} {Z : gZ} {I : gI} {J : gJ} : g_at 15 0 L S Z I J = g_at 15 1 L (.int 1 :: S) Z I J := gq_push e_15_0
theorem e_15_1 : g_Pg 15 1 = ga_iload 1 2 := (congrFun pg_15 1).trans rfl
theorem q_15_1 {l0 l2 l3 l4 : Value} {x : Int32} {S : List Value} {Z : gZ} {I : gI} {J : gJ} : g_at 15 1 [l0, .int x, l2, l3, l4] S Z I J = g_at 15 2 [l0, .int x, l2, l3, l4] (.int x :: S) Z I J := gq_iload e_15_1 rfl
theorem e_15_2 : g_Pg 15 2 = ga_bin (fun x y => x <<< (y &&& 31)) 3 := (congrFun pg_15 2).trans rfl
theorem q_15_2 {L : List Value} {x y : Int32} {S : List Value} {Z : gZ} {I : gI} {J : gJ} : g_at 15 2 L (.int y :: .int x :: S) Z I J = g_at 15 3 L (.int (x <<< (y &&& 31)) :: S) Z I J := gq_bin e_15_2
theorem e_15_3 : g_Pg 15 3 = ga_push (.int 1) 4 := (congrFun pg_15 3).trans rfl
theorem q_15_3 {L : List Value} {S : List Value} {Z : gZ} {I : gI} {J : gJ} : g_at 15 3 L S Z I J = g_at 15 4 L (.int 1 :: S) Z I J := gq_push e_15_3
theorem e_15_4 : g_Pg 15 4 = ga_bin (fun x y => x - y) 5 := (congrFun pg_15 4).trans rfl
theorem q_15_4 {L : List Value} {x y : Int32} {S : List Value} {Z : gZ} {I : gI} {J : gJ} : g_at 15 4 L (.int y :: .int x :: S) Z I J = g_at 15 5 L (.int (x - y) :: S) Z I J := gq_bin e_15_4
theorem e_15_5 : g_Pg 15 5 = ga_istore 2 6 := (congrFun pg_15 5).trans rfl
theorem q_15_5 {l0 l1 l2 l3 l4 : Value} {x : Int32} {S : List Value} {Z : gZ} {I : gI} {J : gJ} (h : gN1 l1 = true) : g_at 15 5 [l0, l1, l2, l3, l4] (.int x :: S) Z I J = g_at 15 6 [l0, l1, .int x, l3, l4] S Z I J := gq_istore e_15_5 h rfl rfl
theorem e_15_6 : g_Pg 15 6 = ga_push (.int 0) 7 := (congrFun pg_15 6).trans rfl
theorem q_15_6 {L : List Value} {S : List Value} {Z : gZ} {I : gI} {J : gJ} : g_at 15 6 L S Z I J = g_at 15 7 L (.int 0 :: S) Z I J := gq_push e_15_6
theorem e_15_7 : g_Pg 15 7 = ga_istore 3 8 := (congrFun pg_15 7).trans rfl
theorem q_15_7 {l0 l1 l2 l3 l4 : Value} {x : Int32} {S : List Value} {Z : gZ} {I : gI} {J : gJ} (h : gN1 l2 = true) : g_at 15 7 [l0, l1, l2, l3, l4] (.int x :: S) Z I J = g_at 15 8 [l0, l1, l2, .int x, l4] S Z I J := gq_istore e_15_7 h rfl rfl
theorem e_15_8 : g_Pg 15 8 = ga_push (.int 0) 9 := (congrFun pg_15 8).trans rfl
theorem q_15_8 {L : List Value} {S : List Value} {Z : gZ} {I : gI} {J : gJ} : g_at 15 8 L S Z I J = g_at 15 9 L (.int 0 :: S) Z I J := gq_push e_15_8
theorem e_15_9 : g_Pg 15 9 = ga_istore 4 11 := (congrFun pg_15 9).trans rfl
theorem q_15_9 {l0 l1 l2 l3 l4 : Value} {x : Int32} {S : List Value} {Z : gZ} {I : gI} {J : gJ} (h : gN1 l3 = true) : g_at 15 9 [l0, l1, l2, l3, l4] (.int x :: S) Z I J = g_at 15 11 [l0, l1, l2, l3, .int x] S Z I J := gq_istore e_15_9 h rfl rfl
theorem e_15_11 : g_Pg 15 11 = ga_iload 4 13 := (congrFun pg_15 11).trans rfl
theorem q_15_11 {l0 l1 l2 l3 : Value} {x : Int32} {S : List Value} {Z : gZ} {I : gI} {J : gJ} : g_at 15 11 [l0, l1, l2, l3, .int x] S Z I J = g_at 15 13 [l0, l1, l2, l3, .int x] (.int x :: S) Z I J := gq_iload e_15_11 rfl
theorem e_15_13 : g_Pg 15 13 = ga_iload 0 14 := (congrFun pg_15 13).trans rfl
theorem q_15_13 {l1 l2 l3 l4 : Value} {x : Int32} {S : List Value} {Z : gZ} {I : gI} {J : gJ} : g_at 15 13 [.int x, l1, l2, l3, l4] S Z I J = g_at 15 14 [.int x, l1, l2, l3, l4] (.int x :: S) Z I J := gq_iload e_15_13 rfl
theorem e_15_14 : g_Pg 15 14 = ga_cmp (fun x y => decide (y ≤ x)) 35 17 := (congrFun pg_15 14).trans rfl
theorem q_15_14 {L : List Value} {x y : Int32} {S : List Value} {Z : gZ} {I : gI} {J : gJ} : g_at 15 14 L (.int y :: .int x :: S) Z I J = if y ≤ x then g_at 15 35 L S Z I J else g_at 15 17 L S Z I J := gq_cmp e_15_14 rfl
theorem e_15_17 : g_Pg 15 17 = ga_iinc 3 1 20 := (congrFun pg_15 17).trans rfl
theorem q_15_17 {l0 l1 l2 l4 : Value} {x : Int32} {S : List Value} {Z : gZ} {I : gI} {J : gJ} (h : gN1 l2 = true) : g_at 15 17 [l0, l1, l2, .int x, l4] S Z I J = g_at 15 20 [l0, l1, l2, .int (x + 1), l4] S Z I J := gq_iinc e_15_17 rfl h rfl
theorem e_15_20 : g_Pg 15 20 = ga_iload 3 21 := (congrFun pg_15 20).trans rfl
theorem q_15_20 {l0 l1 l2 l4 : Value} {x : Int32} {S : List Value} {Z : gZ} {I : gI} {J : gJ} : g_at 15 20 [l0, l1, l2, .int x, l4] S Z I J = g_at 15 21 [l0, l1, l2, .int x, l4] (.int x :: S) Z I J := gq_iload e_15_20 rfl
theorem e_15_21 : g_Pg 15 21 = ga_iload 2 22 := (congrFun pg_15 21).trans rfl
theorem q_15_21 {l0 l1 l3 l4 : Value} {x : Int32} {S : List Value} {Z : gZ} {I : gI} {J : gJ} : g_at 15 21 [l0, l1, .int x, l3, l4] S Z I J = g_at 15 22 [l0, l1, .int x, l3, l4] (.int x :: S) Z I J := gq_iload e_15_21 rfl
theorem e_15_22 : g_Pg 15 22 = ga_bin (fun x y => x &&& y) 23 := (congrFun pg_15 22).trans rfl
theorem q_15_22 {L : List Value} {x y : Int32} {S : List Value} {Z : gZ} {I : gI} {J : gJ} : g_at 15 22 L (.int y :: .int x :: S) Z I J = g_at 15 23 L (.int (x &&& y) :: S) Z I J := gq_bin e_15_22
theorem e_15_23 : g_Pg 15 23 = ga_if (fun x => decide (¬ x = 0)) 29 26 := (congrFun pg_15 23).trans rfl
theorem q_15_23 {L : List Value} {x : Int32} {S : List Value} {Z : gZ} {I : gI} {J : gJ} : g_at 15 23 L (.int x :: S) Z I J = if ¬ x = 0 then g_at 15 29 L S Z I J else g_at 15 26 L S Z I J := gq_if e_15_23 rfl
theorem e_15_26 : g_Pg 15 26 = ga_iinc 3 1 29 := (congrFun pg_15 26).trans rfl
theorem q_15_26 {l0 l1 l2 l4 : Value} {x : Int32} {S : List Value} {Z : gZ} {I : gI} {J : gJ} (h : gN1 l2 = true) : g_at 15 26 [l0, l1, l2, .int x, l4] S Z I J = g_at 15 29 [l0, l1, l2, .int (x + 1), l4] S Z I J := gq_iinc e_15_26 rfl h rfl
theorem e_15_29 : g_Pg 15 29 = ga_iinc 4 1 32 := (congrFun pg_15 29).trans rfl
theorem q_15_29 {l0 l1 l2 l3 : Value} {x : Int32} {S : List Value} {Z : gZ} {I : gI} {J : gJ} (h : gN1 l3 = true) : g_at 15 29 [l0, l1, l2, l3, .int x] S Z I J = g_at 15 32 [l0, l1, l2, l3, .int (x + 1)] S Z I J := gq_iinc e_15_29 rfl h rfl
theorem e_15_32 : g_Pg 15 32 = ga_goto 11 := (congrFun pg_15 32).trans rfl
theorem q_15_32 {L : List Value} {S : List Value} {Z : gZ} {I : gI} {J : gJ} : g_at 15 32 L S Z I J = g_at 15 11 L S Z I J := gq_goto e_15_32
theorem e_15_35 : g_Pg 15 35 = ga_iload 3 36 := (congrFun pg_15 35).trans rfl
theorem q_15_35 {l0 l1 l2 l4 : Value} {x : Int32} {S : List Value} {Z : gZ} {I : gI} {J : gJ} : g_at 15 35 [l0, l1, l2, .int x, l4] S Z I J = g_at 15 36 [l0, l1, l2, .int x, l4] (.int x :: S) Z I J := gq_iload e_15_35 rfl
theorem e_15_36 : g_Pg 15 36 = ga_iret := (congrFun pg_15 36).trans rfl
theorem q_15_36 {L : List Value} {x : Int32} {Z : gZ} {I : gI} {J : gJ} : g_at 15 36 L [.int x] Z I J = some (some (.int x), Z, I, J) := gq_iret e_15_36
theorem e_16_0 : g_Pg 16 0 = ga_aload 0 1 := (congrFun pg_16 0).trans rfl
theorem q_16_0 {l1 l2 l3 l4 l5 : Value} {x : Nat} {S : List Value} {Z : gZ} {I : gI} {J : gJ} : g_at 16 0 [.ref x, l1, l2, l3, l4, l5] S Z I J = g_at 16 1 [.ref x, l1, l2, l3, l4, l5] (.ref x :: S) Z I J := gq_aload e_16_0 rfl
theorem e_16_1 : g_Pg 16 1 = ga_iload 1 2 := (congrFun pg_16 1).trans rfl
theorem q_16_1 {l0 l2 l3 l4 l5 : Value} {x : Int32} {S : List Value} {Z : gZ} {I : gI} {J : gJ} : g_at 16 1 [l0, .int x, l2, l3, l4, l5] S Z I J = g_at 16 2 [l0, .int x, l2, l3, l4, l5] (.int x :: S) Z I J := gq_iload e_16_1 rfl
theorem e_16_2 : g_Pg 16 2 = ga_iload 2 3 := (congrFun pg_16 2).trans rfl
theorem q_16_2 {l0 l1 l3 l4 l5 : Value} {x : Int32} {S : List Value} {Z : gZ} {I : gI} {J : gJ} : g_at 16 2 [l0, l1, .int x, l3, l4, l5] S Z I J = g_at 16 3 [l0, l1, .int x, l3, l4, l5] (.int x :: S) Z I J := gq_iload e_16_2 rfl
theorem e_16_3 : g_Pg 16 3 = ga_callV 1 10 2 6 := (congrFun pg_16 3).trans rfl
theorem q_16_3 {L : List Value} {a0 : Int32} {a1 : Int32} {a2 : Nat} {Z : gZ} {I : gI} {J : gJ} (h : (gKd Z a2).1 = 1) : g_at 16 3 L [.int a0, .int a1, .ref a2] Z I J = (g_at 10 0 [.ref a2, .int a1, .int a0, .null] [] Z I J).bind (fun r => g_at 16 6 L (r.1.toList ++ []) r.2.1 r.2.2.1 r.2.2.2) := gq_callV e_16_3 rfl rfl h rfl rfl rfl rfl rfl
theorem e_16_6 : g_Pg 16 6 = ga_istore 4 8 := (congrFun pg_16 6).trans rfl
theorem q_16_6 {l0 l1 l2 l3 l4 l5 : Value} {x : Int32} {S : List Value} {Z : gZ} {I : gI} {J : gJ} (h : gN1 l3 = true) : g_at 16 6 [l0, l1, l2, l3, l4, l5] (.int x :: S) Z I J = g_at 16 8 [l0, l1, l2, l3, .int x, l5] S Z I J := gq_istore e_16_6 h rfl rfl
theorem e_16_8 : g_Pg 16 8 = ga_aload 0 9 := (congrFun pg_16 8).trans rfl
theorem q_16_8 {l1 l2 l3 l4 l5 : Value} {x : Nat} {S : List Value} {Z : gZ} {I : gI} {J : gJ} : g_at 16 8 [.ref x, l1, l2, l3, l4, l5] S Z I J = g_at 16 9 [.ref x, l1, l2, l3, l4, l5] (.ref x :: S) Z I J := gq_aload e_16_8 rfl
theorem e_16_9 : g_Pg 16 9 = ga_iload 1 10 := (congrFun pg_16 9).trans rfl
theorem q_16_9 {l0 l2 l3 l4 l5 : Value} {x : Int32} {S : List Value} {Z : gZ} {I : gI} {J : gJ} : g_at 16 9 [l0, .int x, l2, l3, l4, l5] S Z I J = g_at 16 10 [l0, .int x, l2, l3, l4, l5] (.int x :: S) Z I J := gq_iload e_16_9 rfl
theorem e_16_10 : g_Pg 16 10 = ga_iload 3 11 := (congrFun pg_16 10).trans rfl
theorem q_16_10 {l0 l1 l2 l4 l5 : Value} {x : Int32} {S : List Value} {Z : gZ} {I : gI} {J : gJ} : g_at 16 10 [l0, l1, l2, .int x, l4, l5] S Z I J = g_at 16 11 [l0, l1, l2, .int x, l4, l5] (.int x :: S) Z I J := gq_iload e_16_10 rfl
theorem e_16_11 : g_Pg 16 11 = ga_callV 1 10 2 14 := (congrFun pg_16 11).trans rfl
theorem q_16_11 {L : List Value} {a0 : Int32} {a1 : Int32} {a2 : Nat} {Z : gZ} {I : gI} {J : gJ} (h : (gKd Z a2).1 = 1) : g_at 16 11 L [.int a0, .int a1, .ref a2] Z I J = (g_at 10 0 [.ref a2, .int a1, .int a0, .null] [] Z I J).bind (fun r => g_at 16 14 L (r.1.toList ++ []) r.2.1 r.2.2.1 r.2.2.2) := gq_callV e_16_11 rfl rfl h rfl rfl rfl rfl rfl
theorem e_16_14 : g_Pg 16 14 = ga_istore 5 16 := (congrFun pg_16 14).trans rfl
theorem q_16_14 {l0 l1 l2 l3 l4 l5 : Value} {x : Int32} {S : List Value} {Z : gZ} {I : gI} {J : gJ} (h : gN1 l4 = true) : g_at 16 14 [l0, l1, l2, l3, l4, l5] (.int x :: S) Z I J = g_at 16 16 [l0, l1, l2, l3, l4, .int x] S Z I J := gq_istore e_16_14 h rfl rfl
theorem e_16_16 : g_Pg 16 16 = ga_iload 4 18 := (congrFun pg_16 16).trans rfl
theorem q_16_16 {l0 l1 l2 l3 l5 : Value} {x : Int32} {S : List Value} {Z : gZ} {I : gI} {J : gJ} : g_at 16 16 [l0, l1, l2, l3, .int x, l5] S Z I J = g_at 16 18 [l0, l1, l2, l3, .int x, l5] (.int x :: S) Z I J := gq_iload e_16_16 rfl
theorem e_16_18 : g_Pg 16 18 = ga_push (.int (-1)) 19 := (congrFun pg_16 18).trans rfl
theorem q_16_18 {L : List Value} {S : List Value} {Z : gZ} {I : gI} {J : gJ} : g_at 16 18 L S Z I J = g_at 16 19 L (.int (-1) :: S) Z I J := gq_push e_16_18
theorem e_16_19 : g_Pg 16 19 = ga_cmp (fun x y => decide (x = y)) 28 22 := (congrFun pg_16 19).trans rfl
theorem q_16_19 {L : List Value} {x y : Int32} {S : List Value} {Z : gZ} {I : gI} {J : gJ} : g_at 16 19 L (.int y :: .int x :: S) Z I J = if x = y then g_at 16 28 L S Z I J else g_at 16 22 L S Z I J := gq_cmp e_16_19 rfl
theorem e_16_22 : g_Pg 16 22 = ga_iload 5 24 := (congrFun pg_16 22).trans rfl
theorem q_16_22 {l0 l1 l2 l3 l4 : Value} {x : Int32} {S : List Value} {Z : gZ} {I : gI} {J : gJ} : g_at 16 22 [l0, l1, l2, l3, l4, .int x] S Z I J = g_at 16 24 [l0, l1, l2, l3, l4, .int x] (.int x :: S) Z I J := gq_iload e_16_22 rfl
theorem e_16_24 : g_Pg 16 24 = ga_push (.int (-1)) 25 := (congrFun pg_16 24).trans rfl
theorem q_16_24 {L : List Value} {S : List Value} {Z : gZ} {I : gI} {J : gJ} : g_at 16 24 L S Z I J = g_at 16 25 L (.int (-1) :: S) Z I J := gq_push e_16_24
theorem e_16_25 : g_Pg 16 25 = ga_cmp (fun x y => decide (¬ x = y)) 32 28 := (congrFun pg_16 25).trans rfl
theorem q_16_25 {L : List Value} {x y : Int32} {S : List Value} {Z : gZ} {I : gI} {J : gJ} : g_at 16 25 L (.int y :: .int x :: S) Z I J = if ¬ x = y then g_at 16 32 L S Z I J else g_at 16 28 L S Z I J := gq_cmp e_16_25 rfl
theorem e_16_28 : g_Pg 16 28 = ga_push (.int (-1)) 29 := (congrFun pg_16 28).trans rfl
theorem q_16_28 {L : List Value} {S : List Value} {Z : gZ} {I : gI} {J : gJ} : g_at 16 28 L S Z I J = g_at 16 29 L (.int (-1) :: S) Z I J := gq_push e_16_28
theorem e_16_29 : g_Pg 16 29 = ga_goto 40 := (congrFun pg_16 29).trans rfl
theorem q_16_29 {L : List Value} {S : List Value} {Z : gZ} {I : gI} {J : gJ} : g_at 16 29 L S Z I J = g_at 16 40 L S Z I J := gq_goto e_16_29
theorem e_16_32 : g_Pg 16 32 = ga_iload 4 34 := (congrFun pg_16 32).trans rfl
theorem q_16_32 {l0 l1 l2 l3 l5 : Value} {x : Int32} {S : List Value} {Z : gZ} {I : gI} {J : gJ} : g_at 16 32 [l0, l1, l2, l3, .int x, l5] S Z I J = g_at 16 34 [l0, l1, l2, l3, .int x, l5] (.int x :: S) Z I J := gq_iload e_16_32 rfl
theorem e_16_34 : g_Pg 16 34 = ga_iload 5 36 := (congrFun pg_16 34).trans rfl
theorem q_16_34 {l0 l1 l2 l3 l4 : Value} {x : Int32} {S : List Value} {Z : gZ} {I : gI} {J : gJ} : g_at 16 34 [l0, l1, l2, l3, l4, .int x] S Z I J = g_at 16 36 [l0, l1, l2, l3, l4, .int x] (.int x :: S) Z I J := gq_iload e_16_34 rfl
theorem e_16_36 : g_Pg 16 36 = ga_bin (fun x y => x - y) 37 := (congrFun pg_16 36).trans rfl
theorem q_16_36 {L : List Value} {x y : Int32} {S : List Value} {Z : gZ} {I : gI} {J : gJ} : g_at 16 36 L (.int y :: .int x :: S) Z I J = g_at 16 37 L (.int (x - y) :: S) Z I J := gq_bin e_16_36
theorem e_16_37 : g_Pg 16 37 = ga_abs 40 := (congrFun pg_16 37).trans rfl
theorem q_16_37 {L : List Value} {x : Int32} {Z : gZ} {I : gI} {J : gJ} : g_at 16 37 L [.int x] Z I J = g_at 16 40 L [.int (if 0 ≤ x then x else 0 - x)] Z I J := gq_abs e_16_37
theorem e_16_40 : g_Pg 16 40 = ga_iret := (congrFun pg_16 40).trans rfl
theorem q_16_40 {L : List Value} {x : Int32} {Z : gZ} {I : gI} {J : gJ} : g_at 16 40 L [.int x] Z I J = some (some (.int x), Z, I, J) := gq_iret e_16_40
theorem e_17_0 : g_Pg 17 0 = ga_iload 2 1 := (congrFun pg_17 0).trans rfl
theorem q_17_0 {l0 l1 : Value} {x : Int32} {S : List Value} {Z : gZ} {I : gI} {J : gJ} : g_at 17 0 [l0, l1, .int x] S Z I J = g_at 17 1 [l0, l1, .int x] (.int x :: S) Z I J := gq_iload e_17_0 rfl
theorem e_17_1 : g_Pg 17 1 = ga_iload 1 2 := (congrFun pg_17 1).trans rfl
theorem q_17_1 {l0 l2 : Value} {x : Int32} {S : List Value} {Z : gZ} {I : gI} {J : gJ} : g_at 17 1 [l0, .int x, l2] S Z I J = g_at 17 2 [l0, .int x, l2] (.int x :: S) Z I J := gq_iload e_17_1 rfl
theorem e_17_2 : g_Pg 17 2 = ga_cmp (fun x y => decide (¬ x = y)) 7 5 := (congrFun pg_17 2).trans rfl
theorem q_17_2 {L : List Value} {x y : Int32} {S : List Value} {Z : gZ} {I : gI} {J : gJ} : g_at 17 2 L (.int y :: .int x :: S) Z I J = if ¬ x = y then g_at 17 7 L S Z I J else g_at 17 5 L S Z I J := gq_cmp e_17_2 rfl
theorem e_17_5 : g_Pg 17 5 = ga_push (.int 0) 6 := (congrFun pg_17 5).trans rfl
theorem q_17_5 {L : List Value} {S : List Value} {Z : gZ} {I : gI} {J : gJ} : g_at 17 5 L S Z I J = g_at 17 6 L (.int 0 :: S) Z I J := gq_push e_17_5
theorem e_17_6 : g_Pg 17 6 = ga_iret := (congrFun pg_17 6).trans rfl
theorem q_17_6 {L : List Value} {x : Int32} {Z : gZ} {I : gI} {J : gJ} : g_at 17 6 L [.int x] Z I J = some (some (.int x), Z, I, J) := gq_iret e_17_6
theorem e_17_7 : g_Pg 17 7 = ga_aload 0 8 := (congrFun pg_17 7).trans rfl
theorem q_17_7 {l1 l2 : Value} {x : Nat} {S : List Value} {Z : gZ} {I : gI} {J : gJ} : g_at 17 7 [.ref x, l1, l2] S Z I J = g_at 17 8 [.ref x, l1, l2] (.ref x :: S) Z I J := gq_aload e_17_7 rfl
theorem e_17_8 : g_Pg 17 8 = ga_iload 1 9 := (congrFun pg_17 8).trans rfl
theorem q_17_8 {l0 l2 : Value} {x : Int32} {S : List Value} {Z : gZ} {I : gI} {J : gJ} : g_at 17 8 [l0, .int x, l2] S Z I J = g_at 17 9 [l0, .int x, l2] (.int x :: S) Z I J := gq_iload e_17_8 rfl
theorem e_17_9 : g_Pg 17 9 = ga_iload 2 10 := (congrFun pg_17 9).trans rfl
theorem q_17_9 {l0 l1 : Value} {x : Int32} {S : List Value} {Z : gZ} {I : gI} {J : gJ} : g_at 17 9 [l0, l1, .int x] S Z I J = g_at 17 10 [l0, l1, .int x] (.int x :: S) Z I J := gq_iload e_17_9 rfl
theorem e_17_10 : g_Pg 17 10 = ga_callV 1 10 2 13 := (congrFun pg_17 10).trans rfl
theorem q_17_10 {L : List Value} {a0 : Int32} {a1 : Int32} {a2 : Nat} {Z : gZ} {I : gI} {J : gJ} (h : (gKd Z a2).1 = 1) : g_at 17 10 L [.int a0, .int a1, .ref a2] Z I J = (g_at 10 0 [.ref a2, .int a1, .int a0, .null] [] Z I J).bind (fun r => g_at 17 13 L (r.1.toList ++ []) r.2.1 r.2.2.1 r.2.2.2) := gq_callV e_17_10 rfl rfl h rfl rfl rfl rfl rfl
theorem e_17_13 : g_Pg 17 13 = ga_push (.int (-1)) 14 := (congrFun pg_17 13).trans rfl
theorem q_17_13 {L : List Value} {S : List Value} {Z : gZ} {I : gI} {J : gJ} : g_at 17 13 L S Z I J = g_at 17 14 L (.int (-1) :: S) Z I J := gq_push e_17_13
theorem e_17_14 : g_Pg 17 14 = ga_cmp (fun x y => decide (¬ x = y)) 21 17 := (congrFun pg_17 14).trans rfl
theorem q_17_14 {L : List Value} {x y : Int32} {S : List Value} {Z : gZ} {I : gI} {J : gJ} : g_at 17 14 L (.int y :: .int x :: S) Z I J = if ¬ x = y then g_at 17 21 L S Z I J else g_at 17 17 L S Z I J := gq_cmp e_17_14 rfl
theorem e_17_17 : g_Pg 17 17 = ga_push (.int (-1)) 18 := (congrFun pg_17 17).trans rfl
theorem q_17_17 {L : List Value} {S : List Value} {Z : gZ} {I : gI} {J : gJ} : g_at 17 17 L S Z I J = g_at 17 18 L (.int (-1) :: S) Z I J := gq_push e_17_17
theorem e_17_18 : g_Pg 17 18 = ga_goto 28 := (congrFun pg_17 18).trans rfl
theorem q_17_18 {L : List Value} {S : List Value} {Z : gZ} {I : gI} {J : gJ} : g_at 17 18 L S Z I J = g_at 17 28 L S Z I J := gq_goto e_17_18
theorem e_17_21 : g_Pg 17 21 = ga_aload 0 22 := (congrFun pg_17 21).trans rfl
theorem q_17_21 {l1 l2 : Value} {x : Nat} {S : List Value} {Z : gZ} {I : gI} {J : gJ} : g_at 17 21 [.ref x, l1, l2] S Z I J = g_at 17 22 [.ref x, l1, l2] (.ref x :: S) Z I J := gq_aload e_17_21 rfl
theorem e_17_22 : g_Pg 17 22 = ga_getR 1 1 25 := (congrFun pg_17 22).trans rfl
theorem q_17_22 {L : List Value} {a : Nat} {S : List Value} {Z : gZ} {I : gI} {J : gJ} (h : (gKd Z a).1 = 1) (h1 : gRs Z a 1 = true) : g_at 17 22 L (.ref a :: S) Z I J = g_at 17 25 L (.ref (gRq Z a 1) :: S) Z I J := gq_getR e_17_22 h h1
theorem e_17_25 : g_Pg 17 25 = ga_getI 5 2 28 := (congrFun pg_17 25).trans rfl
theorem q_17_25 {L : List Value} {a : Nat} {S : List Value} {Z : gZ} {I : gI} {J : gJ} (h : (gKd Z a).1 = 5) : g_at 17 25 L (.ref a :: S) Z I J = g_at 17 28 L (.int (I a 2) :: S) Z I J := gq_getI e_17_25 h
theorem e_17_28 : g_Pg 17 28 = ga_iret := (congrFun pg_17 28).trans rfl
theorem q_17_28 {L : List Value} {x : Int32} {Z : gZ} {I : gI} {J : gJ} : g_at 17 28 L [.int x] Z I J = some (some (.int x), Z, I, J) := gq_iret e_17_28
theorem e_18_0 : g_Pg 18 0 = ga_aload 0 1 := (congrFun pg_18 0).trans rfl
theorem q_18_0 {l1 l2 l3 l4 l5 l6 l7 : Value} {x : Nat} {S : List Value} {Z : gZ} {I : gI} {J : gJ} : g_at 18 0 [.ref x, l1, l2, l3, l4, l5, l6, l7] S Z I J = g_at 18 1 [.ref x, l1, l2, l3, l4, l5, l6, l7] (.ref x :: S) Z I J := gq_aload e_18_0 rfl
theorem e_18_1 : g_Pg 18 1 = ga_callV 1 20 0 4 := (congrFun pg_18 1).trans rfl
theorem q_18_1 {L : List Value} {a0 : Nat} {Z : gZ} {I : gI} {J : gJ} (h : (gKd Z a0).1 = 1) : g_at 18 1 L [.ref a0] Z I J = (g_at 20 0 [.ref a0] [] Z I J).bind (fun r => g_at 18 4 L (r.1.toList ++ []) r.2.1 r.2.2.1 r.2.2.2) := gq_callV e_18_1 rfl rfl h rfl rfl rfl rfl rfl
theorem e_18_4 : g_Pg 18 4 = ga_aload 0 5 := (congrFun pg_18 4).trans rfl
theorem q_18_4 {l1 l2 l3 l4 l5 l6 l7 : Value} {x : Nat} {S : List Value} {Z : gZ} {I : gI} {J : gJ} : g_at 18 4 [.ref x, l1, l2, l3, l4, l5, l6, l7] S Z I J = g_at 18 5 [.ref x, l1, l2, l3, l4, l5, l6, l7] (.ref x :: S) Z I J := gq_aload e_18_4 rfl
theorem e_18_5 : g_Pg 18 5 = ga_iload 1 6 := (congrFun pg_18 5).trans rfl
theorem q_18_5 {l0 l2 l3 l4 l5 l6 l7 : Value} {x : Int32} {S : List Value} {Z : gZ} {I : gI} {J : gJ} : g_at 18 5 [l0, .int x, l2, l3, l4, l5, l6, l7] S Z I J = g_at 18 6 [l0, .int x, l2, l3, l4, l5, l6, l7] (.int x :: S) Z I J := gq_iload e_18_5 rfl
theorem e_18_6 : g_Pg 18 6 = ga_iload 2 7 := (congrFun pg_18 6).trans rfl
theorem q_18_6 {l0 l1 l3 l4 l5 l6 l7 : Value} {x : Int32} {S : List Value} {Z : gZ} {I : gI} {J : gJ} : g_at 18 6 [l0, l1, .int x, l3, l4, l5, l6, l7] S Z I J = g_at 18 7 [l0, l1, .int x, l3, l4, l5, l6, l7] (.int x :: S) Z I J := gq_iload e_18_6 rfl
theorem e_18_7 : g_Pg 18 7 = ga_iload 3 8 := (congrFun pg_18 7).trans rfl
theorem q_18_7 {l0 l1 l2 l4 l5 l6 l7 : Value} {x : Int32} {S : List Value} {Z : gZ} {I : gI} {J : gJ} : g_at 18 7 [l0, l1, l2, .int x, l4, l5, l6, l7] S Z I J = g_at 18 8 [l0, l1, l2, .int x, l4, l5, l6, l7] (.int x :: S) Z I J := gq_iload e_18_7 rfl
theorem e_18_8 : g_Pg 18 8 = ga_callV 1 16 3 11 := (congrFun pg_18 8).trans rfl
theorem q_18_8 {L : List Value} {a0 : Int32} {a1 : Int32} {a2 : Int32} {a3 : Nat} {Z : gZ} {I : gI} {J : gJ} (h : (gKd Z a3).1 = 1) : g_at 18 8 L [.int a0, .int a1, .int a2, .ref a3] Z I J = (g_at 16 0 [.ref a3, .int a2, .int a1, .int a0, .null, .null] [] Z I J).bind (fun r => g_at 18 11 L (r.1.toList ++ []) r.2.1 r.2.2.1 r.2.2.2) := gq_callV e_18_8 rfl rfl h rfl rfl rfl rfl rfl
theorem e_18_11 : g_Pg 18 11 = ga_istore 4 13 := (congrFun pg_18 11).trans rfl
theorem q_18_11 {l0 l1 l2 l3 l4 l5 l6 l7 : Value} {x : Int32} {S : List Value} {Z : gZ} {I : gI} {J : gJ} (h : gN1 l3 = true) : g_at 18 11 [l0, l1, l2, l3, l4, l5, l6, l7] (.int x :: S) Z I J = g_at 18 13 [l0, l1, l2, l3, .int x, l5, l6, l7] S Z I J := gq_istore e_18_11 h rfl rfl
theorem e_18_13 : g_Pg 18 13 = ga_push (.int 0) 14 := (congrFun pg_18 13).trans rfl
theorem q_18_13 {L : List Value} {S : List Value} {Z : gZ} {I : gI} {J : gJ} : g_at 18 13 L S Z I J = g_at 18 14 L (.int 0 :: S) Z I J := gq_push e_18_13
theorem e_18_14 : g_Pg 18 14 = ga_istore 5 16 := (congrFun pg_18 14).trans rfl
theorem q_18_14 {l0 l1 l2 l3 l4 l5 l6 l7 : Value} {x : Int32} {S : List Value} {Z : gZ} {I : gI} {J : gJ} (h : gN1 l4 = true) : g_at 18 14 [l0, l1, l2, l3, l4, l5, l6, l7] (.int x :: S) Z I J = g_at 18 16 [l0, l1, l2, l3, l4, .int x, l6, l7] S Z I J := gq_istore e_18_14 h rfl rfl
theorem e_18_16 : g_Pg 18 16 = ga_iload 5 18 := (congrFun pg_18 16).trans rfl
theorem q_18_16 {l0 l1 l2 l3 l4 l6 l7 : Value} {x : Int32} {S : List Value} {Z : gZ} {I : gI} {J : gJ} : g_at 18 16 [l0, l1, l2, l3, l4, .int x, l6, l7] S Z I J = g_at 18 18 [l0, l1, l2, l3, l4, .int x, l6, l7] (.int x :: S) Z I J := gq_iload e_18_16 rfl
theorem e_18_18 : g_Pg 18 18 = ga_aload 0 19 := (congrFun pg_18 18).trans rfl
theorem q_18_18 {l1 l2 l3 l4 l5 l6 l7 : Value} {x : Nat} {S : List Value} {Z : gZ} {I : gI} {J : gJ} : g_at 18 18 [.ref x, l1, l2, l3, l4, l5, l6, l7] S Z I J = g_at 18 19 [.ref x, l1, l2, l3, l4, l5, l6, l7] (.ref x :: S) Z I J := gq_aload e_18_18 rfl
theorem e_18_19 : g_Pg 18 19 = ga_getR 1 0 22 := (congrFun pg_18 19).trans rfl
theorem q_18_19 {L : List Value} {a : Nat} {S : List Value} {Z : gZ} {I : gI} {J : gJ} (h : (gKd Z a).1 = 1) (h1 : gRs Z a 0 = true) : g_at 18 19 L (.ref a :: S) Z I J = g_at 18 22 L (.ref (gRq Z a 0) :: S) Z I J := gq_getR e_18_19 h h1
theorem e_18_22 : g_Pg 18 22 = ga_getI 0 4 25 := (congrFun pg_18 22).trans rfl
theorem q_18_22 {L : List Value} {a : Nat} {S : List Value} {Z : gZ} {I : gI} {J : gJ} (h : (gKd Z a).1 = 0) : g_at 18 22 L (.ref a :: S) Z I J = g_at 18 25 L (.int (I a 4) :: S) Z I J := gq_getI e_18_22 h
theorem e_18_25 : g_Pg 18 25 = ga_cmp (fun x y => decide (y ≤ x)) 122 28 := (congrFun pg_18 25).trans rfl
theorem q_18_25 {L : List Value} {x y : Int32} {S : List Value} {Z : gZ} {I : gI} {J : gJ} : g_at 18 25 L (.int y :: .int x :: S) Z I J = if y ≤ x then g_at 18 122 L S Z I J else g_at 18 28 L S Z I J := gq_cmp e_18_25 rfl
theorem e_18_28 : g_Pg 18 28 = ga_iload 5 30 := (congrFun pg_18 28).trans rfl
theorem q_18_28 {l0 l1 l2 l3 l4 l6 l7 : Value} {x : Int32} {S : List Value} {Z : gZ} {I : gI} {J : gJ} : g_at 18 28 [l0, l1, l2, l3, l4, .int x, l6, l7] S Z I J = g_at 18 30 [l0, l1, l2, l3, l4, .int x, l6, l7] (.int x :: S) Z I J := gq_iload e_18_28 rfl
theorem e_18_30 : g_Pg 18 30 = ga_push (.int 1) 31 := (congrFun pg_18 30).trans rfl
theorem q_18_30 {L : List Value} {S : List Value} {Z : gZ} {I : gI} {J : gJ} : g_at 18 30 L S Z I J = g_at 18 31 L (.int 1 :: S) Z I J := gq_push e_18_30
theorem e_18_31 : g_Pg 18 31 = ga_bin (fun x y => x + y) 32 := (congrFun pg_18 31).trans rfl
theorem q_18_31 {L : List Value} {x y : Int32} {S : List Value} {Z : gZ} {I : gI} {J : gJ} : g_at 18 31 L (.int y :: .int x :: S) Z I J = g_at 18 32 L (.int (x + y) :: S) Z I J := gq_bin e_18_31
theorem e_18_32 : g_Pg 18 32 = ga_istore 6 34 := (congrFun pg_18 32).trans rfl
theorem q_18_32 {l0 l1 l2 l3 l4 l5 l6 l7 : Value} {x : Int32} {S : List Value} {Z : gZ} {I : gI} {J : gJ} (h : gN1 l5 = true) : g_at 18 32 [l0, l1, l2, l3, l4, l5, l6, l7] (.int x :: S) Z I J = g_at 18 34 [l0, l1, l2, l3, l4, l5, .int x, l7] S Z I J := gq_istore e_18_32 h rfl rfl
theorem e_18_34 : g_Pg 18 34 = ga_iload 6 36 := (congrFun pg_18 34).trans rfl
theorem q_18_34 {l0 l1 l2 l3 l4 l5 l7 : Value} {x : Int32} {S : List Value} {Z : gZ} {I : gI} {J : gJ} : g_at 18 34 [l0, l1, l2, l3, l4, l5, .int x, l7] S Z I J = g_at 18 36 [l0, l1, l2, l3, l4, l5, .int x, l7] (.int x :: S) Z I J := gq_iload e_18_34 rfl
theorem e_18_36 : g_Pg 18 36 = ga_aload 0 37 := (congrFun pg_18 36).trans rfl
theorem q_18_36 {l1 l2 l3 l4 l5 l6 l7 : Value} {x : Nat} {S : List Value} {Z : gZ} {I : gI} {J : gJ} : g_at 18 36 [.ref x, l1, l2, l3, l4, l5, l6, l7] S Z I J = g_at 18 37 [.ref x, l1, l2, l3, l4, l5, l6, l7] (.ref x :: S) Z I J := gq_aload e_18_36 rfl
theorem e_18_37 : g_Pg 18 37 = ga_getR 1 0 40 := (congrFun pg_18 37).trans rfl
theorem q_18_37 {L : List Value} {a : Nat} {S : List Value} {Z : gZ} {I : gI} {J : gJ} (h : (gKd Z a).1 = 1) (h1 : gRs Z a 0 = true) : g_at 18 37 L (.ref a :: S) Z I J = g_at 18 40 L (.ref (gRq Z a 0) :: S) Z I J := gq_getR e_18_37 h h1
theorem e_18_40 : g_Pg 18 40 = ga_getI 0 4 43 := (congrFun pg_18 40).trans rfl
theorem q_18_40 {L : List Value} {a : Nat} {S : List Value} {Z : gZ} {I : gI} {J : gJ} (h : (gKd Z a).1 = 0) : g_at 18 40 L (.ref a :: S) Z I J = g_at 18 43 L (.int (I a 4) :: S) Z I J := gq_getI e_18_40 h
theorem e_18_43 : g_Pg 18 43 = ga_cmp (fun x y => decide (y ≤ x)) 116 46 := (congrFun pg_18 43).trans rfl
theorem q_18_43 {L : List Value} {x y : Int32} {S : List Value} {Z : gZ} {I : gI} {J : gJ} : g_at 18 43 L (.int y :: .int x :: S) Z I J = if y ≤ x then g_at 18 116 L S Z I J else g_at 18 46 L S Z I J := gq_cmp e_18_43 rfl
theorem e_18_46 : g_Pg 18 46 = ga_aload 0 47 := (congrFun pg_18 46).trans rfl
theorem q_18_46 {l1 l2 l3 l4 l5 l6 l7 : Value} {x : Nat} {S : List Value} {Z : gZ} {I : gI} {J : gJ} : g_at 18 46 [.ref x, l1, l2, l3, l4, l5, l6, l7] S Z I J = g_at 18 47 [.ref x, l1, l2, l3, l4, l5, l6, l7] (.ref x :: S) Z I J := gq_aload e_18_46 rfl
theorem e_18_47 : g_Pg 18 47 = ga_getR 1 0 50 := (congrFun pg_18 47).trans rfl
theorem q_18_47 {L : List Value} {a : Nat} {S : List Value} {Z : gZ} {I : gI} {J : gJ} (h : (gKd Z a).1 = 1) (h1 : gRs Z a 0 = true) : g_at 18 47 L (.ref a :: S) Z I J = g_at 18 50 L (.ref (gRq Z a 0) :: S) Z I J := gq_getR e_18_47 h h1
theorem e_18_50 : g_Pg 18 50 = ga_iload 5 52 := (congrFun pg_18 50).trans rfl
theorem q_18_50 {l0 l1 l2 l3 l4 l6 l7 : Value} {x : Int32} {S : List Value} {Z : gZ} {I : gI} {J : gJ} : g_at 18 50 [l0, l1, l2, l3, l4, .int x, l6, l7] S Z I J = g_at 18 52 [l0, l1, l2, l3, l4, .int x, l6, l7] (.int x :: S) Z I J := gq_iload e_18_50 rfl
theorem e_18_52 : g_Pg 18 52 = ga_iload 6 54 := (congrFun pg_18 52).trans rfl
theorem q_18_52 {l0 l1 l2 l3 l4 l5 l7 : Value} {x : Int32} {S : List Value} {Z : gZ} {I : gI} {J : gJ} : g_at 18 52 [l0, l1, l2, l3, l4, l5, .int x, l7] S Z I J = g_at 18 54 [l0, l1, l2, l3, l4, l5, .int x, l7] (.int x :: S) Z I J := gq_iload e_18_52 rfl
theorem e_18_54 : g_Pg 18 54 = ga_callV 0 6 2 57 := (congrFun pg_18 54).trans rfl
theorem q_18_54 {L : List Value} {a0 : Int32} {a1 : Int32} {a2 : Nat} {Z : gZ} {I : gI} {J : gJ} (h : (gKd Z a2).1 = 0) : g_at 18 54 L [.int a0, .int a1, .ref a2] Z I J = (g_at 6 0 [.ref a2, .int a1, .int a0, .null, .null] [] Z I J).bind (fun r => g_at 18 57 L (r.1.toList ++ []) r.2.1 r.2.2.1 r.2.2.2) := gq_callV e_18_54 rfl rfl h rfl rfl rfl rfl rfl
theorem e_18_57 : g_Pg 18 57 = ga_aload 0 58 := (congrFun pg_18 57).trans rfl
theorem q_18_57 {l1 l2 l3 l4 l5 l6 l7 : Value} {x : Nat} {S : List Value} {Z : gZ} {I : gI} {J : gJ} : g_at 18 57 [.ref x, l1, l2, l3, l4, l5, l6, l7] S Z I J = g_at 18 58 [.ref x, l1, l2, l3, l4, l5, l6, l7] (.ref x :: S) Z I J := gq_aload e_18_57 rfl
theorem e_18_58 : g_Pg 18 58 = ga_iload 1 59 := (congrFun pg_18 58).trans rfl
theorem q_18_58 {l0 l2 l3 l4 l5 l6 l7 : Value} {x : Int32} {S : List Value} {Z : gZ} {I : gI} {J : gJ} : g_at 18 58 [l0, .int x, l2, l3, l4, l5, l6, l7] S Z I J = g_at 18 59 [l0, .int x, l2, l3, l4, l5, l6, l7] (.int x :: S) Z I J := gq_iload e_18_58 rfl
theorem e_18_59 : g_Pg 18 59 = ga_iload 2 60 := (congrFun pg_18 59).trans rfl
theorem q_18_59 {l0 l1 l3 l4 l5 l6 l7 : Value} {x : Int32} {S : List Value} {Z : gZ} {I : gI} {J : gJ} : g_at 18 59 [l0, l1, .int x, l3, l4, l5, l6, l7] S Z I J = g_at 18 60 [l0, l1, .int x, l3, l4, l5, l6, l7] (.int x :: S) Z I J := gq_iload e_18_59 rfl
theorem e_18_60 : g_Pg 18 60 = ga_iload 3 61 := (congrFun pg_18 60).trans rfl
theorem q_18_60 {l0 l1 l2 l4 l5 l6 l7 : Value} {x : Int32} {S : List Value} {Z : gZ} {I : gI} {J : gJ} : g_at 18 60 [l0, l1, l2, .int x, l4, l5, l6, l7] S Z I J = g_at 18 61 [l0, l1, l2, .int x, l4, l5, l6, l7] (.int x :: S) Z I J := gq_iload e_18_60 rfl
theorem e_18_61 : g_Pg 18 61 = ga_callV 1 16 3 64 := (congrFun pg_18 61).trans rfl
theorem q_18_61 {L : List Value} {a0 : Int32} {a1 : Int32} {a2 : Int32} {a3 : Nat} {Z : gZ} {I : gI} {J : gJ} (h : (gKd Z a3).1 = 1) : g_at 18 61 L [.int a0, .int a1, .int a2, .ref a3] Z I J = (g_at 16 0 [.ref a3, .int a2, .int a1, .int a0, .null, .null] [] Z I J).bind (fun r => g_at 18 64 L (r.1.toList ++ []) r.2.1 r.2.2.1 r.2.2.2) := gq_callV e_18_61 rfl rfl h rfl rfl rfl rfl rfl
theorem e_18_64 : g_Pg 18 64 = ga_istore 7 66 := (congrFun pg_18 64).trans rfl
theorem q_18_64 {l0 l1 l2 l3 l4 l5 l6 l7 : Value} {x : Int32} {S : List Value} {Z : gZ} {I : gI} {J : gJ} (h : gN1 l6 = true) : g_at 18 64 [l0, l1, l2, l3, l4, l5, l6, l7] (.int x :: S) Z I J = g_at 18 66 [l0, l1, l2, l3, l4, l5, l6, .int x] S Z I J := gq_istore e_18_64 h rfl rfl
theorem e_18_66 : g_Pg 18 66 = ga_aload 0 67 := (congrFun pg_18 66).trans rfl
theorem q_18_66 {l1 l2 l3 l4 l5 l6 l7 : Value} {x : Nat} {S : List Value} {Z : gZ} {I : gI} {J : gJ} : g_at 18 66 [.ref x, l1, l2, l3, l4, l5, l6, l7] S Z I J = g_at 18 67 [.ref x, l1, l2, l3, l4, l5, l6, l7] (.ref x :: S) Z I J := gq_aload e_18_66 rfl
theorem e_18_67 : g_Pg 18 67 = ga_getR 1 0 70 := (congrFun pg_18 67).trans rfl
theorem q_18_67 {L : List Value} {a : Nat} {S : List Value} {Z : gZ} {I : gI} {J : gJ} (h : (gKd Z a).1 = 1) (h1 : gRs Z a 0 = true) : g_at 18 67 L (.ref a :: S) Z I J = g_at 18 70 L (.ref (gRq Z a 0) :: S) Z I J := gq_getR e_18_67 h h1
theorem e_18_70 : g_Pg 18 70 = ga_iload 5 72 := (congrFun pg_18 70).trans rfl
theorem q_18_70 {l0 l1 l2 l3 l4 l6 l7 : Value} {x : Int32} {S : List Value} {Z : gZ} {I : gI} {J : gJ} : g_at 18 70 [l0, l1, l2, l3, l4, .int x, l6, l7] S Z I J = g_at 18 72 [l0, l1, l2, l3, l4, .int x, l6, l7] (.int x :: S) Z I J := gq_iload e_18_70 rfl
theorem e_18_72 : g_Pg 18 72 = ga_iload 6 74 := (congrFun pg_18 72).trans rfl
theorem q_18_72 {l0 l1 l2 l3 l4 l5 l7 : Value} {x : Int32} {S : List Value} {Z : gZ} {I : gI} {J : gJ} : g_at 18 72 [l0, l1, l2, l3, l4, l5, .int x, l7] S Z I J = g_at 18 74 [l0, l1, l2, l3, l4, l5, .int x, l7] (.int x :: S) Z I J := gq_iload e_18_72 rfl
theorem e_18_74 : g_Pg 18 74 = ga_callV 0 6 2 77 := (congrFun pg_18 74).trans rfl
theorem q_18_74 {L : List Value} {a0 : Int32} {a1 : Int32} {a2 : Nat} {Z : gZ} {I : gI} {J : gJ} (h : (gKd Z a2).1 = 0) : g_at 18 74 L [.int a0, .int a1, .ref a2] Z I J = (g_at 6 0 [.ref a2, .int a1, .int a0, .null, .null] [] Z I J).bind (fun r => g_at 18 77 L (r.1.toList ++ []) r.2.1 r.2.2.1 r.2.2.2) := gq_callV e_18_74 rfl rfl h rfl rfl rfl rfl rfl
theorem e_18_77 : g_Pg 18 77 = ga_iload 7 79 := (congrFun pg_18 77).trans rfl
theorem q_18_77 {l0 l1 l2 l3 l4 l5 l6 : Value} {x : Int32} {S : List Value} {Z : gZ} {I : gI} {J : gJ} : g_at 18 77 [l0, l1, l2, l3, l4, l5, l6, .int x] S Z I J = g_at 18 79 [l0, l1, l2, l3, l4, l5, l6, .int x] (.int x :: S) Z I J := gq_iload e_18_77 rfl
theorem e_18_79 : g_Pg 18 79 = ga_push (.int (-1)) 80 := (congrFun pg_18 79).trans rfl
theorem q_18_79 {L : List Value} {S : List Value} {Z : gZ} {I : gI} {J : gJ} : g_at 18 79 L S Z I J = g_at 18 80 L (.int (-1) :: S) Z I J := gq_push e_18_79
theorem e_18_80 : g_Pg 18 80 = ga_cmp (fun x y => decide (x = y)) 110 83 := (congrFun pg_18 80).trans rfl
theorem q_18_80 {L : List Value} {x y : Int32} {S : List Value} {Z : gZ} {I : gI} {J : gJ} : g_at 18 80 L (.int y :: .int x :: S) Z I J = if x = y then g_at 18 110 L S Z I J else g_at 18 83 L S Z I J := gq_cmp e_18_80 rfl
theorem e_18_83 : g_Pg 18 83 = ga_iload 4 85 := (congrFun pg_18 83).trans rfl
theorem q_18_83 {l0 l1 l2 l3 l5 l6 l7 : Value} {x : Int32} {S : List Value} {Z : gZ} {I : gI} {J : gJ} : g_at 18 83 [l0, l1, l2, l3, .int x, l5, l6, l7] S Z I J = g_at 18 85 [l0, l1, l2, l3, .int x, l5, l6, l7] (.int x :: S) Z I J := gq_iload e_18_83 rfl
theorem e_18_85 : g_Pg 18 85 = ga_push (.int (-1)) 86 := (congrFun pg_18 85).trans rfl
theorem q_18_85 {L : List Value} {S : List Value} {Z : gZ} {I : gI} {J : gJ} : g_at 18 85 L S Z I J = g_at 18 86 L (.int (-1) :: S) Z I J := gq_push e_18_85
theorem e_18_86 : g_Pg 18 86 = ga_cmp (fun x y => decide (x = y)) 96 89 := (congrFun pg_18 86).trans rfl
theorem q_18_86 {L : List Value} {x y : Int32} {S : List Value} {Z : gZ} {I : gI} {J : gJ} : g_at 18 86 L (.int y :: .int x :: S) Z I J = if x = y then g_at 18 96 L S Z I J else g_at 18 89 L S Z I J := gq_cmp e_18_86 rfl
theorem e_18_89 : g_Pg 18 89 = ga_iload 7 91 := (congrFun pg_18 89).trans rfl
theorem q_18_89 {l0 l1 l2 l3 l4 l5 l6 : Value} {x : Int32} {S : List Value} {Z : gZ} {I : gI} {J : gJ} : g_at 18 89 [l0, l1, l2, l3, l4, l5, l6, .int x] S Z I J = g_at 18 91 [l0, l1, l2, l3, l4, l5, l6, .int x] (.int x :: S) Z I J := gq_iload e_18_89 rfl
theorem e_18_91 : g_Pg 18 91 = ga_iload 4 93 := (congrFun pg_18 91).trans rfl
theorem q_18_91 {l0 l1 l2 l3 l5 l6 l7 : Value} {x : Int32} {S : List Value} {Z : gZ} {I : gI} {J : gJ} : g_at 18 91 [l0, l1, l2, l3, .int x, l5, l6, l7] S Z I J = g_at 18 93 [l0, l1, l2, l3, .int x, l5, l6, l7] (.int x :: S) Z I J := gq_iload e_18_91 rfl
theorem e_18_93 : g_Pg 18 93 = ga_cmp (fun x y => decide (y ≤ x)) 110 96 := (congrFun pg_18 93).trans rfl
theorem q_18_93 {L : List Value} {x y : Int32} {S : List Value} {Z : gZ} {I : gI} {J : gJ} : g_at 18 93 L (.int y :: .int x :: S) Z I J = if y ≤ x then g_at 18 110 L S Z I J else g_at 18 96 L S Z I J := gq_cmp e_18_93 rfl
theorem e_18_96 : g_Pg 18 96 = ga_iload 7 98 := (congrFun pg_18 96).trans rfl
theorem q_18_96 {l0 l1 l2 l3 l4 l5 l6 : Value} {x : Int32} {S : List Value} {Z : gZ} {I : gI} {J : gJ} : g_at 18 96 [l0, l1, l2, l3, l4, l5, l6, .int x] S Z I J = g_at 18 98 [l0, l1, l2, l3, l4, l5, l6, .int x] (.int x :: S) Z I J := gq_iload e_18_96 rfl
theorem e_18_98 : g_Pg 18 98 = ga_istore 4 100 := (congrFun pg_18 98).trans rfl
theorem q_18_98 {l0 l1 l2 l3 l4 l5 l6 l7 : Value} {x : Int32} {S : List Value} {Z : gZ} {I : gI} {J : gJ} (h : gN1 l3 = true) : g_at 18 98 [l0, l1, l2, l3, l4, l5, l6, l7] (.int x :: S) Z I J = g_at 18 100 [l0, l1, l2, l3, .int x, l5, l6, l7] S Z I J := gq_istore e_18_98 h rfl rfl
theorem e_18_100 : g_Pg 18 100 = ga_aload 0 101 := (congrFun pg_18 100).trans rfl
theorem q_18_100 {l1 l2 l3 l4 l5 l6 l7 : Value} {x : Nat} {S : List Value} {Z : gZ} {I : gI} {J : gJ} : g_at 18 100 [.ref x, l1, l2, l3, l4, l5, l6, l7] S Z I J = g_at 18 101 [.ref x, l1, l2, l3, l4, l5, l6, l7] (.ref x :: S) Z I J := gq_aload e_18_100 rfl
theorem e_18_101 : g_Pg 18 101 = ga_iload 7 103 := (congrFun pg_18 101).trans rfl
theorem q_18_101 {l0 l1 l2 l3 l4 l5 l6 : Value} {x : Int32} {S : List Value} {Z : gZ} {I : gI} {J : gJ} : g_at 18 101 [l0, l1, l2, l3, l4, l5, l6, .int x] S Z I J = g_at 18 103 [l0, l1, l2, l3, l4, l5, l6, .int x] (.int x :: S) Z I J := gq_iload e_18_101 rfl
theorem e_18_103 : g_Pg 18 103 = ga_iload 5 105 := (congrFun pg_18 103).trans rfl
theorem q_18_103 {l0 l1 l2 l3 l4 l6 l7 : Value} {x : Int32} {S : List Value} {Z : gZ} {I : gI} {J : gJ} : g_at 18 103 [l0, l1, l2, l3, l4, .int x, l6, l7] S Z I J = g_at 18 105 [l0, l1, l2, l3, l4, .int x, l6, l7] (.int x :: S) Z I J := gq_iload e_18_103 rfl
theorem e_18_105 : g_Pg 18 105 = ga_iload 6 107 := (congrFun pg_18 105).trans rfl
theorem q_18_105 {l0 l1 l2 l3 l4 l5 l7 : Value} {x : Int32} {S : List Value} {Z : gZ} {I : gI} {J : gJ} : g_at 18 105 [l0, l1, l2, l3, l4, l5, .int x, l7] S Z I J = g_at 18 107 [l0, l1, l2, l3, l4, l5, .int x, l7] (.int x :: S) Z I J := gq_iload e_18_105 rfl
theorem e_18_107 : g_Pg 18 107 = ga_callV 1 21 3 110 := (congrFun pg_18 107).trans rfl
theorem q_18_107 {L : List Value} {a0 : Int32} {a1 : Int32} {a2 : Int32} {a3 : Nat} {Z : gZ} {I : gI} {J : gJ} (h : (gKd Z a3).1 = 1) : g_at 18 107 L [.int a0, .int a1, .int a2, .ref a3] Z I J = (g_at 21 0 [.ref a3, .int a2, .int a1, .int a0] [] Z I J).bind (fun r => g_at 18 110 L (r.1.toList ++ []) r.2.1 r.2.2.1 r.2.2.2) := gq_callV e_18_107 rfl rfl h rfl rfl rfl rfl rfl
theorem e_18_110 : g_Pg 18 110 = ga_iinc 6 1 113 := (congrFun pg_18 110).trans rfl
theorem q_18_110 {l0 l1 l2 l3 l4 l5 l7 : Value} {x : Int32} {S : List Value} {Z : gZ} {I : gI} {J : gJ} (h : gN1 l5 = true) : g_at 18 110 [l0, l1, l2, l3, l4, l5, .int x, l7] S Z I J = g_at 18 113 [l0, l1, l2, l3, l4, l5, .int (x + 1), l7] S Z I J := gq_iinc e_18_110 rfl h rfl
theorem e_18_113 : g_Pg 18 113 = ga_goto 34 := (congrFun pg_18 113).trans rfl
theorem q_18_113 {L : List Value} {S : List Value} {Z : gZ} {I : gI} {J : gJ} : g_at 18 113 L S Z I J = g_at 18 34 L S Z I J := gq_goto e_18_113
theorem e_18_116 : g_Pg 18 116 = ga_iinc 5 1 119 := (congrFun pg_18 116).trans rfl
theorem q_18_116 {l0 l1 l2 l3 l4 l6 l7 : Value} {x : Int32} {S : List Value} {Z : gZ} {I : gI} {J : gJ} (h : gN1 l4 = true) : g_at 18 116 [l0, l1, l2, l3, l4, .int x, l6, l7] S Z I J = g_at 18 119 [l0, l1, l2, l3, l4, .int (x + 1), l6, l7] S Z I J := gq_iinc e_18_116 rfl h rfl
theorem e_18_119 : g_Pg 18 119 = ga_goto 16 := (congrFun pg_18 119).trans rfl
theorem q_18_119 {L : List Value} {S : List Value} {Z : gZ} {I : gI} {J : gJ} : g_at 18 119 L S Z I J = g_at 18 16 L S Z I J := gq_goto e_18_119
theorem e_18_122 : g_Pg 18 122 = ga_vret := (congrFun pg_18 122).trans rfl
theorem q_18_122 {L : List Value} {Z : gZ} {I : gI} {J : gJ} : g_at 18 122 L [] Z I J = some (none, Z, I, J) := gq_vret e_18_122
theorem e_19_0 : g_Pg 19 0 = ga_aload 0 1 := (congrFun pg_19 0).trans rfl
theorem q_19_0 {l1 l2 l3 l4 l5 : Value} {x : Nat} {S : List Value} {Z : gZ} {I : gI} {J : gJ} : g_at 19 0 [.ref x, l1, l2, l3, l4, l5] S Z I J = g_at 19 1 [.ref x, l1, l2, l3, l4, l5] (.ref x :: S) Z I J := gq_aload e_19_0 rfl
theorem e_19_1 : g_Pg 19 1 = ga_callV 1 20 0 4 := (congrFun pg_19 1).trans rfl
theorem q_19_1 {L : List Value} {a0 : Nat} {Z : gZ} {I : gI} {J : gJ} (h : (gKd Z a0).1 = 1) : g_at 19 1 L [.ref a0] Z I J = (g_at 20 0 [.ref a0] [] Z I J).bind (fun r => g_at 19 4 L (r.1.toList ++ []) r.2.1 r.2.2.1 r.2.2.2) := gq_callV e_19_1 rfl rfl h rfl rfl rfl rfl rfl
theorem e_19_4 : g_Pg 19 4 = ga_aload 0 5 := (congrFun pg_19 4).trans rfl
theorem q_19_4 {l1 l2 l3 l4 l5 : Value} {x : Nat} {S : List Value} {Z : gZ} {I : gI} {J : gJ} : g_at 19 4 [.ref x, l1, l2, l3, l4, l5] S Z I J = g_at 19 5 [.ref x, l1, l2, l3, l4, l5] (.ref x :: S) Z I J := gq_aload e_19_4 rfl
theorem e_19_5 : g_Pg 19 5 = ga_iload 2 6 := (congrFun pg_19 5).trans rfl
theorem q_19_5 {l0 l1 l3 l4 l5 : Value} {x : Int32} {S : List Value} {Z : gZ} {I : gI} {J : gJ} : g_at 19 5 [l0, l1, .int x, l3, l4, l5] S Z I J = g_at 19 6 [l0, l1, .int x, l3, l4, l5] (.int x :: S) Z I J := gq_iload e_19_5 rfl
theorem e_19_6 : g_Pg 19 6 = ga_callV 1 12 1 9 := (congrFun pg_19 6).trans rfl
theorem q_19_6 {L : List Value} {a0 : Int32} {a1 : Nat} {Z : gZ} {I : gI} {J : gJ} (h : (gKd Z a1).1 = 1) : g_at 19 6 L [.int a0, .ref a1] Z I J = (g_at 12 0 [.ref a1, .int a0, .null, .null] [] Z I J).bind (fun r => g_at 19 9 L (r.1.toList ++ []) r.2.1 r.2.2.1 r.2.2.2) := gq_callV e_19_6 rfl rfl h rfl rfl rfl rfl rfl
theorem e_19_9 : g_Pg 19 9 = ga_call 133 1 12 := (congrFun pg_19 9).trans rfl
theorem q_19_9 {L : List Value} {a0 : Int32} {Z : gZ} {I : gI} {J : gJ} : g_at 19 9 L [.int a0] Z I J = (g_at 133 0 [.int a0] [] Z I J).bind (fun r => g_at 19 12 L (r.1.toList ++ []) r.2.1 r.2.2.1 r.2.2.2) := gq_call e_19_9 rfl rfl rfl rfl rfl
theorem e_19_12 : g_Pg 19 12 = ga_istore 3 13 := (congrFun pg_19 12).trans rfl
theorem q_19_12 {l0 l1 l2 l3 l4 l5 : Value} {x : Int32} {S : List Value} {Z : gZ} {I : gI} {J : gJ} (h : gN1 l2 = true) : g_at 19 12 [l0, l1, l2, l3, l4, l5] (.int x :: S) Z I J = g_at 19 13 [l0, l1, l2, .int x, l4, l5] S Z I J := gq_istore e_19_12 h rfl rfl
theorem e_19_13 : g_Pg 19 13 = ga_push (.int 0) 14 := (congrFun pg_19 13).trans rfl
theorem q_19_13 {L : List Value} {S : List Value} {Z : gZ} {I : gI} {J : gJ} : g_at 19 13 L S Z I J = g_at 19 14 L (.int 0 :: S) Z I J := gq_push e_19_13
theorem e_19_14 : g_Pg 19 14 = ga_istore 4 16 := (congrFun pg_19 14).trans rfl
theorem q_19_14 {l0 l1 l2 l3 l4 l5 : Value} {x : Int32} {S : List Value} {Z : gZ} {I : gI} {J : gJ} (h : gN1 l3 = true) : g_at 19 14 [l0, l1, l2, l3, l4, l5] (.int x :: S) Z I J = g_at 19 16 [l0, l1, l2, l3, .int x, l5] S Z I J := gq_istore e_19_14 h rfl rfl
theorem e_19_16 : g_Pg 19 16 = ga_iload 4 18 := (congrFun pg_19 16).trans rfl
theorem q_19_16 {l0 l1 l2 l3 l5 : Value} {x : Int32} {S : List Value} {Z : gZ} {I : gI} {J : gJ} : g_at 19 16 [l0, l1, l2, l3, .int x, l5] S Z I J = g_at 19 18 [l0, l1, l2, l3, .int x, l5] (.int x :: S) Z I J := gq_iload e_19_16 rfl
theorem e_19_18 : g_Pg 19 18 = ga_aload 1 19 := (congrFun pg_19 18).trans rfl
theorem q_19_18 {l0 l2 l3 l4 l5 : Value} {x : Nat} {S : List Value} {Z : gZ} {I : gI} {J : gJ} : g_at 19 18 [l0, .ref x, l2, l3, l4, l5] S Z I J = g_at 19 19 [l0, .ref x, l2, l3, l4, l5] (.ref x :: S) Z I J := gq_aload e_19_18 rfl
theorem e_19_19 : g_Pg 19 19 = ga_getI 0 4 22 := (congrFun pg_19 19).trans rfl
theorem q_19_19 {L : List Value} {a : Nat} {S : List Value} {Z : gZ} {I : gI} {J : gJ} (h : (gKd Z a).1 = 0) : g_at 19 19 L (.ref a :: S) Z I J = g_at 19 22 L (.int (I a 4) :: S) Z I J := gq_getI e_19_19 h
theorem e_19_22 : g_Pg 19 22 = ga_cmp (fun x y => decide (y ≤ x)) 90 25 := (congrFun pg_19 22).trans rfl
theorem q_19_22 {L : List Value} {x y : Int32} {S : List Value} {Z : gZ} {I : gI} {J : gJ} : g_at 19 22 L (.int y :: .int x :: S) Z I J = if y ≤ x then g_at 19 90 L S Z I J else g_at 19 25 L S Z I J := gq_cmp e_19_22 rfl
theorem e_19_25 : g_Pg 19 25 = ga_aload 1 26 := (congrFun pg_19 25).trans rfl
theorem q_19_25 {l0 l2 l3 l4 l5 : Value} {x : Nat} {S : List Value} {Z : gZ} {I : gI} {J : gJ} : g_at 19 25 [l0, .ref x, l2, l3, l4, l5] S Z I J = g_at 19 26 [l0, .ref x, l2, l3, l4, l5] (.ref x :: S) Z I J := gq_aload e_19_25 rfl
theorem e_19_26 : g_Pg 19 26 = ga_getR 0 2 29 := (congrFun pg_19 26).trans rfl
theorem q_19_26 {L : List Value} {a : Nat} {S : List Value} {Z : gZ} {I : gI} {J : gJ} (h : (gKd Z a).1 = 0) (h1 : gRs Z a 2 = true) : g_at 19 26 L (.ref a :: S) Z I J = g_at 19 29 L (.ref (gRq Z a 2) :: S) Z I J := gq_getR e_19_26 h h1
theorem e_19_29 : g_Pg 19 29 = ga_iload 4 31 := (congrFun pg_19 29).trans rfl
theorem q_19_29 {l0 l1 l2 l3 l5 : Value} {x : Int32} {S : List Value} {Z : gZ} {I : gI} {J : gJ} : g_at 19 29 [l0, l1, l2, l3, .int x, l5] S Z I J = g_at 19 31 [l0, l1, l2, l3, .int x, l5] (.int x :: S) Z I J := gq_iload e_19_29 rfl
theorem e_19_31 : g_Pg 19 31 = ga_iald 32 := (congrFun pg_19 31).trans rfl
theorem q_19_31 {L : List Value} {a : Nat} {i : Int32} {S : List Value} {Z : gZ} {I : gI} {J : gJ} (h : gTg8 (gKd Z a).1 a = true) (h0 : 0 ≤ i) (h1 : i.toNatClampNeg < (gKd Z a).2) : g_at 19 31 L (.int i :: .ref a :: S) Z I J = g_at 19 32 L (.int (I a i.toNatClampNeg) :: S) Z I J := gq_iald e_19_31 h h0 h1
theorem e_19_32 : g_Pg 19 32 = ga_push (.int 1) 33 := (congrFun pg_19 32).trans rfl
theorem q_19_32 {L : List Value} {S : List Value} {Z : gZ} {I : gI} {J : gJ} : g_at 19 32 L S Z I J = g_at 19 33 L (.int 1 :: S) Z I J := gq_push e_19_32
theorem e_19_33 : g_Pg 19 33 = ga_cmp (fun x y => decide (x = y)) 39 36 := (congrFun pg_19 33).trans rfl
theorem q_19_33 {L : List Value} {x y : Int32} {S : List Value} {Z : gZ} {I : gI} {J : gJ} : g_at 19 33 L (.int y :: .int x :: S) Z I J = if x = y then g_at 19 39 L S Z I J else g_at 19 36 L S Z I J := gq_cmp e_19_33 rfl
theorem e_19_36 : g_Pg 19 36 = ga_goto 84 := (congrFun pg_19 36).trans rfl
theorem q_19_36 {L : List Value} {S : List Value} {Z : gZ} {I : gI} {J : gJ} : g_at 19 36 L S Z I J = g_at 19 84 L S Z I J := gq_goto e_19_36
theorem e_19_39 : g_Pg 19 39 = ga_aload 0 40 := (congrFun pg_19 39).trans rfl
theorem q_19_39 {l1 l2 l3 l4 l5 : Value} {x : Nat} {S : List Value} {Z : gZ} {I : gI} {J : gJ} : g_at 19 39 [.ref x, l1, l2, l3, l4, l5] S Z I J = g_at 19 40 [.ref x, l1, l2, l3, l4, l5] (.ref x :: S) Z I J := gq_aload e_19_39 rfl
theorem e_19_40 : g_Pg 19 40 = ga_getR 1 0 43 := (congrFun pg_19 40).trans rfl
theorem q_19_40 {L : List Value} {a : Nat} {S : List Value} {Z : gZ} {I : gI} {J : gJ} (h : (gKd Z a).1 = 1) (h1 : gRs Z a 0 = true) : g_at 19 40 L (.ref a :: S) Z I J = g_at 19 43 L (.ref (gRq Z a 0) :: S) Z I J := gq_getR e_19_40 h h1
theorem e_19_43 : g_Pg 19 43 = ga_aload 1 44 := (congrFun pg_19 43).trans rfl
theorem q_19_43 {l0 l2 l3 l4 l5 : Value} {x : Nat} {S : List Value} {Z : gZ} {I : gI} {J : gJ} : g_at 19 43 [l0, .ref x, l2, l3, l4, l5] S Z I J = g_at 19 44 [l0, .ref x, l2, l3, l4, l5] (.ref x :: S) Z I J := gq_aload e_19_43 rfl
theorem e_19_44 : g_Pg 19 44 = ga_callV 0 2 1 47 := (congrFun pg_19 44).trans rfl
theorem q_19_44 {L : List Value} {a0 : Nat} {a1 : Nat} {Z : gZ} {I : gI} {J : gJ} (h : (gKd Z a1).1 = 0) : g_at 19 44 L [.ref a0, .ref a1] Z I J = (g_at 2 0 [.ref a1, .ref a0] [] Z I J).bind (fun r => g_at 19 47 L (r.1.toList ++ []) r.2.1 r.2.2.1 r.2.2.2) := gq_callV e_19_44 rfl rfl h rfl rfl rfl rfl rfl
theorem e_19_47 : g_Pg 19 47 = ga_aload 0 48 := (congrFun pg_19 47).trans rfl
theorem q_19_47 {l1 l2 l3 l4 l5 : Value} {x : Nat} {S : List Value} {Z : gZ} {I : gI} {J : gJ} : g_at 19 47 [.ref x, l1, l2, l3, l4, l5] S Z I J = g_at 19 48 [.ref x, l1, l2, l3, l4, l5] (.ref x :: S) Z I J := gq_aload e_19_47 rfl
theorem e_19_48 : g_Pg 19 48 = ga_getR 1 0 51 := (congrFun pg_19 48).trans rfl
theorem q_19_48 {L : List Value} {a : Nat} {S : List Value} {Z : gZ} {I : gI} {J : gJ} (h : (gKd Z a).1 = 1) (h1 : gRs Z a 0 = true) : g_at 19 48 L (.ref a :: S) Z I J = g_at 19 51 L (.ref (gRq Z a 0) :: S) Z I J := gq_getR e_19_48 h h1
theorem e_19_51 : g_Pg 19 51 = ga_iload 4 53 := (congrFun pg_19 51).trans rfl
theorem q_19_51 {l0 l1 l2 l3 l5 : Value} {x : Int32} {S : List Value} {Z : gZ} {I : gI} {J : gJ} : g_at 19 51 [l0, l1, l2, l3, .int x, l5] S Z I J = g_at 19 53 [l0, l1, l2, l3, .int x, l5] (.int x :: S) Z I J := gq_iload e_19_51 rfl
theorem e_19_53 : g_Pg 19 53 = ga_callV 0 7 1 56 := (congrFun pg_19 53).trans rfl
theorem q_19_53 {L : List Value} {a0 : Int32} {a1 : Nat} {Z : gZ} {I : gI} {J : gJ} (h : (gKd Z a1).1 = 0) : g_at 19 53 L [.int a0, .ref a1] Z I J = (g_at 7 0 [.ref a1, .int a0, .null, .null] [] Z I J).bind (fun r => g_at 19 56 L (r.1.toList ++ []) r.2.1 r.2.2.1 r.2.2.2) := gq_callV e_19_53 rfl rfl h rfl rfl rfl rfl rfl
theorem e_19_56 : g_Pg 19 56 = ga_aload 0 57 := (congrFun pg_19 56).trans rfl
theorem q_19_56 {l1 l2 l3 l4 l5 : Value} {x : Nat} {S : List Value} {Z : gZ} {I : gI} {J : gJ} : g_at 19 56 [.ref x, l1, l2, l3, l4, l5] S Z I J = g_at 19 57 [.ref x, l1, l2, l3, l4, l5] (.ref x :: S) Z I J := gq_aload e_19_56 rfl
theorem e_19_57 : g_Pg 19 57 = ga_iload 2 58 := (congrFun pg_19 57).trans rfl
theorem q_19_57 {l0 l1 l3 l4 l5 : Value} {x : Int32} {S : List Value} {Z : gZ} {I : gI} {J : gJ} : g_at 19 57 [l0, l1, .int x, l3, l4, l5] S Z I J = g_at 19 58 [l0, l1, .int x, l3, l4, l5] (.int x :: S) Z I J := gq_iload e_19_57 rfl
theorem e_19_58 : g_Pg 19 58 = ga_callV 1 12 1 61 := (congrFun pg_19 58).trans rfl
theorem q_19_58 {L : List Value} {a0 : Int32} {a1 : Nat} {Z : gZ} {I : gI} {J : gJ} (h : (gKd Z a1).1 = 1) : g_at 19 58 L [.int a0, .ref a1] Z I J = (g_at 12 0 [.ref a1, .int a0, .null, .null] [] Z I J).bind (fun r => g_at 19 61 L (r.1.toList ++ []) r.2.1 r.2.2.1 r.2.2.2) := gq_callV e_19_58 rfl rfl h rfl rfl rfl rfl rfl
theorem e_19_61 : g_Pg 19 61 = ga_call 133 1 64 := (congrFun pg_19 61).trans rfl
theorem q_19_61 {L : List Value} {a0 : Int32} {Z : gZ} {I : gI} {J : gJ} : g_at 19 61 L [.int a0] Z I J = (g_at 133 0 [.int a0] [] Z I J).bind (fun r => g_at 19 64 L (r.1.toList ++ []) r.2.1 r.2.2.1 r.2.2.2) := gq_call e_19_61 rfl rfl rfl rfl rfl
theorem e_19_64 : g_Pg 19 64 = ga_istore 5 66 := (congrFun pg_19 64).trans rfl
theorem q_19_64 {l0 l1 l2 l3 l4 l5 : Value} {x : Int32} {S : List Value} {Z : gZ} {I : gI} {J : gJ} (h : gN1 l4 = true) : g_at 19 64 [l0, l1, l2, l3, l4, l5] (.int x :: S) Z I J = g_at 19 66 [l0, l1, l2, l3, l4, .int x] S Z I J := gq_istore e_19_64 h rfl rfl
theorem e_19_66 : g_Pg 19 66 = ga_iload 5 68 := (congrFun pg_19 66).trans rfl
theorem q_19_66 {l0 l1 l2 l3 l4 : Value} {x : Int32} {S : List Value} {Z : gZ} {I : gI} {J : gJ} : g_at 19 66 [l0, l1, l2, l3, l4, .int x] S Z I J = g_at 19 68 [l0, l1, l2, l3, l4, .int x] (.int x :: S) Z I J := gq_iload e_19_66 rfl
theorem e_19_68 : g_Pg 19 68 = ga_iload 3 69 := (congrFun pg_19 68).trans rfl
theorem q_19_68 {l0 l1 l2 l4 l5 : Value} {x : Int32} {S : List Value} {Z : gZ} {I : gI} {J : gJ} : g_at 19 68 [l0, l1, l2, .int x, l4, l5] S Z I J = g_at 19 69 [l0, l1, l2, .int x, l4, l5] (.int x :: S) Z I J := gq_iload e_19_68 rfl
theorem e_19_69 : g_Pg 19 69 = ga_cmp (fun x y => decide (x ≤ y)) 84 72 := (congrFun pg_19 69).trans rfl
theorem q_19_69 {L : List Value} {x y : Int32} {S : List Value} {Z : gZ} {I : gI} {J : gJ} : g_at 19 69 L (.int y :: .int x :: S) Z I J = if x ≤ y then g_at 19 84 L S Z I J else g_at 19 72 L S Z I J := gq_cmp e_19_69 rfl
theorem e_19_72 : g_Pg 19 72 = ga_iload 5 74 := (congrFun pg_19 72).trans rfl
theorem q_19_72 {l0 l1 l2 l3 l4 : Value} {x : Int32} {S : List Value} {Z : gZ} {I : gI} {J : gJ} : g_at 19 72 [l0, l1, l2, l3, l4, .int x] S Z I J = g_at 19 74 [l0, l1, l2, l3, l4, .int x] (.int x :: S) Z I J := gq_iload e_19_72 rfl
theorem e_19_74 : g_Pg 19 74 = ga_istore 3 75 := (congrFun pg_19 74).trans rfl
theorem q_19_74 {l0 l1 l2 l3 l4 l5 : Value} {x : Int32} {S : List Value} {Z : gZ} {I : gI} {J : gJ} (h : gN1 l2 = true) : g_at 19 74 [l0, l1, l2, l3, l4, l5] (.int x :: S) Z I J = g_at 19 75 [l0, l1, l2, .int x, l4, l5] S Z I J := gq_istore e_19_74 h rfl rfl
theorem e_19_75 : g_Pg 19 75 = ga_aload 0 76 := (congrFun pg_19 75).trans rfl
theorem q_19_75 {l1 l2 l3 l4 l5 : Value} {x : Nat} {S : List Value} {Z : gZ} {I : gI} {J : gJ} : g_at 19 75 [.ref x, l1, l2, l3, l4, l5] S Z I J = g_at 19 76 [.ref x, l1, l2, l3, l4, l5] (.ref x :: S) Z I J := gq_aload e_19_75 rfl
theorem e_19_76 : g_Pg 19 76 = ga_iload 5 78 := (congrFun pg_19 76).trans rfl
theorem q_19_76 {l0 l1 l2 l3 l4 : Value} {x : Int32} {S : List Value} {Z : gZ} {I : gI} {J : gJ} : g_at 19 76 [l0, l1, l2, l3, l4, .int x] S Z I J = g_at 19 78 [l0, l1, l2, l3, l4, .int x] (.int x :: S) Z I J := gq_iload e_19_76 rfl
theorem e_19_78 : g_Pg 19 78 = ga_iload 4 80 := (congrFun pg_19 78).trans rfl
theorem q_19_78 {l0 l1 l2 l3 l5 : Value} {x : Int32} {S : List Value} {Z : gZ} {I : gI} {J : gJ} : g_at 19 78 [l0, l1, l2, l3, .int x, l5] S Z I J = g_at 19 80 [l0, l1, l2, l3, .int x, l5] (.int x :: S) Z I J := gq_iload e_19_78 rfl
theorem e_19_80 : g_Pg 19 80 = ga_push (.int (-1)) 81 := (congrFun pg_19 80).trans rfl
theorem q_19_80 {L : List Value} {S : List Value} {Z : gZ} {I : gI} {J : gJ} : g_at 19 80 L S Z I J = g_at 19 81 L (.int (-1) :: S) Z I J := gq_push e_19_80
theorem e_19_81 : g_Pg 19 81 = ga_callV 1 21 3 84 := (congrFun pg_19 81).trans rfl
theorem q_19_81 {L : List Value} {a0 : Int32} {a1 : Int32} {a2 : Int32} {a3 : Nat} {Z : gZ} {I : gI} {J : gJ} (h : (gKd Z a3).1 = 1) : g_at 19 81 L [.int a0, .int a1, .int a2, .ref a3] Z I J = (g_at 21 0 [.ref a3, .int a2, .int a1, .int a0] [] Z I J).bind (fun r => g_at 19 84 L (r.1.toList ++ []) r.2.1 r.2.2.1 r.2.2.2) := gq_callV e_19_81 rfl rfl h rfl rfl rfl rfl rfl
theorem e_19_84 : g_Pg 19 84 = ga_iinc 4 1 87 := (congrFun pg_19 84).trans rfl
theorem q_19_84 {l0 l1 l2 l3 l5 : Value} {x : Int32} {S : List Value} {Z : gZ} {I : gI} {J : gJ} (h : gN1 l3 = true) : g_at 19 84 [l0, l1, l2, l3, .int x, l5] S Z I J = g_at 19 87 [l0, l1, l2, l3, .int (x + 1), l5] S Z I J := gq_iinc e_19_84 rfl h rfl
theorem e_19_87 : g_Pg 19 87 = ga_goto 16 := (congrFun pg_19 87).trans rfl
theorem q_19_87 {L : List Value} {S : List Value} {Z : gZ} {I : gI} {J : gJ} : g_at 19 87 L S Z I J = g_at 19 16 L S Z I J := gq_goto e_19_87
theorem e_19_90 : g_Pg 19 90 = ga_vret := (congrFun pg_19 90).trans rfl
theorem q_19_90 {L : List Value} {Z : gZ} {I : gI} {J : gJ} : g_at 19 90 L [] Z I J = some (none, Z, I, J) := gq_vret e_19_90
theorem e_20_0 : g_Pg 20 0 = ga_aload 0 1 := (congrFun pg_20 0).trans rfl
theorem q_20_0 {x : Nat} {S : List Value} {Z : gZ} {I : gI} {J : gJ} : g_at 20 0 [.ref x] S Z I J = g_at 20 1 [.ref x] (.ref x :: S) Z I J := gq_aload e_20_0 rfl
theorem e_20_1 : g_Pg 20 1 = ga_push (.int (-1)) 2 := (congrFun pg_20 1).trans rfl
theorem q_20_1 {L : List Value} {S : List Value} {Z : gZ} {I : gI} {J : gJ} : g_at 20 1 L S Z I J = g_at 20 2 L (.int (-1) :: S) Z I J := gq_push e_20_1
theorem e_20_2 : g_Pg 20 2 = ga_push (.int (-1)) 3 := (congrFun pg_20 2).trans rfl
theorem q_20_2 {L : List Value} {S : List Value} {Z : gZ} {I : gI} {J : gJ} : g_at 20 2 L S Z I J = g_at 20 3 L (.int (-1) :: S) Z I J := gq_push e_20_2
theorem e_20_3 : g_Pg 20 3 = ga_push (.int (-1)) 4 := (congrFun pg_20 3).trans rfl
theorem q_20_3 {L : List Value} {S : List Value} {Z : gZ} {I : gI} {J : gJ} : g_at 20 3 L S Z I J = g_at 20 4 L (.int (-1) :: S) Z I J := gq_push e_20_3
theorem e_20_4 : g_Pg 20 4 = ga_callV 1 21 3 7 := (congrFun pg_20 4).trans rfl
theorem q_20_4 {L : List Value} {a0 : Int32} {a1 : Int32} {a2 : Int32} {a3 : Nat} {Z : gZ} {I : gI} {J : gJ} (h : (gKd Z a3).1 = 1) : g_at 20 4 L [.int a0, .int a1, .int a2, .ref a3] Z I J = (g_at 21 0 [.ref a3, .int a2, .int a1, .int a0] [] Z I J).bind (fun r => g_at 20 7 L (r.1.toList ++ []) r.2.1 r.2.2.1 r.2.2.2) := gq_callV e_20_4 rfl rfl h rfl rfl rfl rfl rfl
theorem e_20_7 : g_Pg 20 7 = ga_vret := (congrFun pg_20 7).trans rfl
theorem q_20_7 {L : List Value} {Z : gZ} {I : gI} {J : gJ} : g_at 20 7 L [] Z I J = some (none, Z, I, J) := gq_vret e_20_7
theorem e_21_0 : g_Pg 21 0 = ga_aload 0 1 := (congrFun pg_21 0).trans rfl
theorem q_21_0 {l1 l2 l3 : Value} {x : Nat} {S : List Value} {Z : gZ} {I : gI} {J : gJ} : g_at 21 0 [.ref x, l1, l2, l3] S Z I J = g_at 21 1 [.ref x, l1, l2, l3] (.ref x :: S) Z I J := gq_aload e_21_0 rfl
theorem e_21_1 : g_Pg 21 1 = ga_iload 1 2 := (congrFun pg_21 1).trans rfl
theorem q_21_1 {l0 l2 l3 : Value} {x : Int32} {S : List Value} {Z : gZ} {I : gI} {J : gJ} : g_at 21 1 [l0, .int x, l2, l3] S Z I J = g_at 21 2 [l0, .int x, l2, l3] (.int x :: S) Z I J := gq_iload e_21_1 rfl
theorem e_21_2 : g_Pg 21 2 = ga_putI 1 5 5 := (congrFun pg_21 2).trans rfl
theorem q_21_2 {L : List Value} {a : Nat} {v : Int32} {S : List Value} {Z : gZ} {I : gI} {J : gJ} (h : (gKd Z a).1 = 1) : g_at 21 2 L (.int v :: .ref a :: S) Z I J = g_at 21 5 L S Z (va_up I a (va_up (I a) 5 v)) J := gq_putI e_21_2 h
theorem e_21_5 : g_Pg 21 5 = ga_aload 0 6 := (congrFun pg_21 5).trans rfl
theorem q_21_5 {l1 l2 l3 : Value} {x : Nat} {S : List Value} {Z : gZ} {I : gI} {J : gJ} : g_at 21 5 [.ref x, l1, l2, l3] S Z I J = g_at 21 6 [.ref x, l1, l2, l3] (.ref x :: S) Z I J := gq_aload e_21_5 rfl
theorem e_21_6 : g_Pg 21 6 = ga_iload 2 7 := (congrFun pg_21 6).trans rfl
theorem q_21_6 {l0 l1 l3 : Value} {x : Int32} {S : List Value} {Z : gZ} {I : gI} {J : gJ} : g_at 21 6 [l0, l1, .int x, l3] S Z I J = g_at 21 7 [l0, l1, .int x, l3] (.int x :: S) Z I J := gq_iload e_21_6 rfl
theorem e_21_7 : g_Pg 21 7 = ga_putI 1 6 10 := (congrFun pg_21 7).trans rfl
theorem q_21_7 {L : List Value} {a : Nat} {v : Int32} {S : List Value} {Z : gZ} {I : gI} {J : gJ} (h : (gKd Z a).1 = 1) : g_at 21 7 L (.int v :: .ref a :: S) Z I J = g_at 21 10 L S Z (va_up I a (va_up (I a) 6 v)) J := gq_putI e_21_7 h
theorem e_21_10 : g_Pg 21 10 = ga_aload 0 11 := (congrFun pg_21 10).trans rfl
theorem q_21_10 {l1 l2 l3 : Value} {x : Nat} {S : List Value} {Z : gZ} {I : gI} {J : gJ} : g_at 21 10 [.ref x, l1, l2, l3] S Z I J = g_at 21 11 [.ref x, l1, l2, l3] (.ref x :: S) Z I J := gq_aload e_21_10 rfl
theorem e_21_11 : g_Pg 21 11 = ga_iload 3 12 := (congrFun pg_21 11).trans rfl
theorem q_21_11 {l0 l1 l2 : Value} {x : Int32} {S : List Value} {Z : gZ} {I : gI} {J : gJ} : g_at 21 11 [l0, l1, l2, .int x] S Z I J = g_at 21 12 [l0, l1, l2, .int x] (.int x :: S) Z I J := gq_iload e_21_11 rfl
theorem e_21_12 : g_Pg 21 12 = ga_putI 1 7 15 := (congrFun pg_21 12).trans rfl
theorem q_21_12 {L : List Value} {a : Nat} {v : Int32} {S : List Value} {Z : gZ} {I : gI} {J : gJ} (h : (gKd Z a).1 = 1) : g_at 21 12 L (.int v :: .ref a :: S) Z I J = g_at 21 15 L S Z (va_up I a (va_up (I a) 7 v)) J := gq_putI e_21_12 h
theorem e_21_15 : g_Pg 21 15 = ga_vret := (congrFun pg_21 15).trans rfl
theorem q_21_15 {L : List Value} {Z : gZ} {I : gI} {J : gJ} : g_at 21 15 L [] Z I J = some (none, Z, I, J) := gq_vret e_21_15
theorem e_22_0 : g_Pg 22 0 = ga_aload 0 1 := (congrFun pg_22 0).trans rfl
theorem q_22_0 {x : Nat} {S : List Value} {Z : gZ} {I : gI} {J : gJ} : g_at 22 0 [.ref x] S Z I J = g_at 22 1 [.ref x] (.ref x :: S) Z I J := gq_aload e_22_0 rfl
theorem e_22_1 : g_Pg 22 1 = ga_oinit 4 := (congrFun pg_22 1).trans rfl
theorem q_22_1 {L : List Value} {x : Nat} {Z : gZ} {I : gI} {J : gJ} : g_at 22 1 L [.ref x] Z I J = g_at 22 4 L [] Z I J := gq_oinit e_22_1
theorem e_22_4 : g_Pg 22 4 = ga_aload 0 5 := (congrFun pg_22 4).trans rfl
theorem q_22_4 {x : Nat} {S : List Value} {Z : gZ} {I : gI} {J : gJ} : g_at 22 4 [.ref x] S Z I J = g_at 22 5 [.ref x] (.ref x :: S) Z I J := gq_aload e_22_4 rfl
theorem e_22_5 : g_Pg 22 5 = ga_push (.int 10) 7 := (congrFun pg_22 5).trans rfl
theorem q_22_5 {L : List Value} {S : List Value} {Z : gZ} {I : gI} {J : gJ} : g_at 22 5 L S Z I J = g_at 22 7 L (.int 10 :: S) Z I J := gq_push e_22_5
theorem e_22_7 : g_Pg 22 7 = ga_newa 10 9 := (congrFun pg_22 7).trans rfl
theorem q_22_7 {L : List Value} {n : Int32} {S : List Value} {Z : gZ} {I : gI} {J : gJ} (h : Z.1 < 1000) (h0 : 0 ≤ n) (h1 : n.toNatClampNeg ≤ 1000) : g_at 22 7 L (.int n :: S) Z I J = g_at 22 9 L (.ref Z.1 :: S) (Z.1 + 1, Z.2.1 + n.toNatClampNeg, va_up Z.2.2.1 Z.1 (10, n.toNatClampNeg), va_up Z.2.2.2 Z.1 (fun _ => none)) (va_up I Z.1 (fun _ => 0)) (va_up J Z.1 (fun _ => 0)) := gq_newa e_22_7 h h0 h1
theorem e_22_9 : g_Pg 22 9 = ga_putR 2 0 12 := (congrFun pg_22 9).trans rfl
theorem q_22_9 {L : List Value} {a v : Nat} {S : List Value} {Z : gZ} {I : gI} {J : gJ} (h : (gKd Z a).1 = 2) : g_at 22 9 L (.ref v :: .ref a :: S) Z I J = g_at 22 12 L S (Z.1, Z.2.1, Z.2.2.1, va_up Z.2.2.2 a (va_up (Z.2.2.2 a) 0 (some v))) I J := gq_putR e_22_9 h
theorem e_22_12 : g_Pg 22 12 = ga_aload 0 13 := (congrFun pg_22 12).trans rfl
theorem q_22_12 {x : Nat} {S : List Value} {Z : gZ} {I : gI} {J : gJ} : g_at 22 12 [.ref x] S Z I J = g_at 22 13 [.ref x] (.ref x :: S) Z I J := gq_aload e_22_12 rfl
theorem e_22_13 : g_Pg 22 13 = ga_push (.int 10) 15 := (congrFun pg_22 13).trans rfl
theorem q_22_13 {L : List Value} {S : List Value} {Z : gZ} {I : gI} {J : gJ} : g_at 22 13 L S Z I J = g_at 22 15 L (.int 10 :: S) Z I J := gq_push e_22_13
theorem e_22_15 : g_Pg 22 15 = ga_newa 8 17 := (congrFun pg_22 15).trans rfl
theorem q_22_15 {L : List Value} {n : Int32} {S : List Value} {Z : gZ} {I : gI} {J : gJ} (h : Z.1 < 1000) (h0 : 0 ≤ n) (h1 : n.toNatClampNeg ≤ 1000) : g_at 22 15 L (.int n :: S) Z I J = g_at 22 17 L (.ref Z.1 :: S) (Z.1 + 1, Z.2.1 + n.toNatClampNeg, va_up Z.2.2.1 Z.1 (8, n.toNatClampNeg), va_up Z.2.2.2 Z.1 (fun _ => none)) (va_up I Z.1 (fun _ => 0)) (va_up J Z.1 (fun _ => 0)) := gq_newa e_22_15 h h0 h1
theorem e_22_17 : g_Pg 22 17 = ga_putR 2 1 20 := (congrFun pg_22 17).trans rfl
theorem q_22_17 {L : List Value} {a v : Nat} {S : List Value} {Z : gZ} {I : gI} {J : gJ} (h : (gKd Z a).1 = 2) : g_at 22 17 L (.ref v :: .ref a :: S) Z I J = g_at 22 20 L S (Z.1, Z.2.1, Z.2.2.1, va_up Z.2.2.2 a (va_up (Z.2.2.2 a) 1 (some v))) I J := gq_putR e_22_17 h
theorem e_22_20 : g_Pg 22 20 = ga_aload 0 21 := (congrFun pg_22 20).trans rfl
theorem q_22_20 {x : Nat} {S : List Value} {Z : gZ} {I : gI} {J : gJ} : g_at 22 20 [.ref x] S Z I J = g_at 22 21 [.ref x] (.ref x :: S) Z I J := gq_aload e_22_20 rfl
theorem e_22_21 : g_Pg 22 21 = ga_push (.int 10) 23 := (congrFun pg_22 21).trans rfl
theorem q_22_21 {L : List Value} {S : List Value} {Z : gZ} {I : gI} {J : gJ} : g_at 22 21 L S Z I J = g_at 22 23 L (.int 10 :: S) Z I J := gq_push e_22_21
theorem e_22_23 : g_Pg 22 23 = ga_newa 9 25 := (congrFun pg_22 23).trans rfl
theorem q_22_23 {L : List Value} {n : Int32} {S : List Value} {Z : gZ} {I : gI} {J : gJ} (h : Z.1 < 1000) (h0 : 0 ≤ n) (h1 : n.toNatClampNeg ≤ 1000) : g_at 22 23 L (.int n :: S) Z I J = g_at 22 25 L (.ref Z.1 :: S) (Z.1 + 1, Z.2.1 + n.toNatClampNeg, va_up Z.2.2.1 Z.1 (9, n.toNatClampNeg), va_up Z.2.2.2 Z.1 (fun _ => none)) (va_up I Z.1 (fun _ => 0)) (va_up J Z.1 (fun _ => 0)) := gq_newa e_22_23 h h0 h1
theorem e_22_25 : g_Pg 22 25 = ga_putR 2 2 28 := (congrFun pg_22 25).trans rfl
theorem q_22_25 {L : List Value} {a v : Nat} {S : List Value} {Z : gZ} {I : gI} {J : gJ} (h : (gKd Z a).1 = 2) : g_at 22 25 L (.ref v :: .ref a :: S) Z I J = g_at 22 28 L S (Z.1, Z.2.1, Z.2.2.1, va_up Z.2.2.2 a (va_up (Z.2.2.2 a) 2 (some v))) I J := gq_putR e_22_25 h
theorem e_22_28 : g_Pg 22 28 = ga_vret := (congrFun pg_22 28).trans rfl
theorem q_22_28 {L : List Value} {Z : gZ} {I : gI} {J : gJ} : g_at 22 28 L [] Z I J = some (none, Z, I, J) := gq_vret e_22_28
theorem e_23_0 : g_Pg 23 0 = ga_push (.int 0) 1 := (congrFun pg_23 0).trans rfl
theorem q_23_0 {L : List Value} {S : List Value} {Z : gZ} {I : gI} {J : gJ} : g_at 23 0 L S Z I J = g_at 23 1 L (.int 0 :: S) Z I J := gq_push e_23_0
theorem e_23_1 : g_Pg 23 1 = ga_istore 2 2 := (congrFun pg_23 1).trans rfl
theorem q_23_1 {l0 l1 l2 : Value} {x : Int32} {S : List Value} {Z : gZ} {I : gI} {J : gJ} (h : gN1 l1 = true) : g_at 23 1 [l0, l1, l2] (.int x :: S) Z I J = g_at 23 2 [l0, l1, .int x] S Z I J := gq_istore e_23_1 h rfl rfl
theorem e_23_2 : g_Pg 23 2 = ga_iload 2 3 := (congrFun pg_23 2).trans rfl
theorem q_23_2 {l0 l1 : Value} {x : Int32} {S : List Value} {Z : gZ} {I : gI} {J : gJ} : g_at 23 2 [l0, l1, .int x] S Z I J = g_at 23 3 [l0, l1, .int x] (.int x :: S) Z I J := gq_iload e_23_2 rfl
theorem e_23_3 : g_Pg 23 3 = ga_push (.int 10) 5 := (congrFun pg_23 3).trans rfl
theorem q_23_3 {L : List Value} {S : List Value} {Z : gZ} {I : gI} {J : gJ} : g_at 23 3 L S Z I J = g_at 23 5 L (.int 10 :: S) Z I J := gq_push e_23_3
theorem e_23_5 : g_Pg 23 5 = ga_cmp (fun x y => decide (y ≤ x)) 35 8 := (congrFun pg_23 5).trans rfl
theorem q_23_5 {L : List Value} {x y : Int32} {S : List Value} {Z : gZ} {I : gI} {J : gJ} : g_at 23 5 L (.int y :: .int x :: S) Z I J = if y ≤ x then g_at 23 35 L S Z I J else g_at 23 8 L S Z I J := gq_cmp e_23_5 rfl
theorem e_23_8 : g_Pg 23 8 = ga_aload 0 9 := (congrFun pg_23 8).trans rfl
theorem q_23_8 {l1 l2 : Value} {x : Nat} {S : List Value} {Z : gZ} {I : gI} {J : gJ} : g_at 23 8 [.ref x, l1, l2] S Z I J = g_at 23 9 [.ref x, l1, l2] (.ref x :: S) Z I J := gq_aload e_23_8 rfl
theorem e_23_9 : g_Pg 23 9 = ga_getR 2 0 12 := (congrFun pg_23 9).trans rfl
theorem q_23_9 {L : List Value} {a : Nat} {S : List Value} {Z : gZ} {I : gI} {J : gJ} (h : (gKd Z a).1 = 2) (h1 : gRs Z a 0 = true) : g_at 23 9 L (.ref a :: S) Z I J = g_at 23 12 L (.ref (gRq Z a 0) :: S) Z I J := gq_getR e_23_9 h h1
theorem e_23_12 : g_Pg 23 12 = ga_iload 2 13 := (congrFun pg_23 12).trans rfl
theorem q_23_12 {l0 l1 : Value} {x : Int32} {S : List Value} {Z : gZ} {I : gI} {J : gJ} : g_at 23 12 [l0, l1, .int x] S Z I J = g_at 23 13 [l0, l1, .int x] (.int x :: S) Z I J := gq_iload e_23_12 rfl
theorem e_23_13 : g_Pg 23 13 = ga_push (.long 0) 14 := (congrFun pg_23 13).trans rfl
theorem q_23_13 {L : List Value} {S : List Value} {Z : gZ} {I : gI} {J : gJ} : g_at 23 13 L S Z I J = g_at 23 14 L (.long 0 :: S) Z I J := gq_push e_23_13
theorem e_23_14 : g_Pg 23 14 = ga_last 15 := (congrFun pg_23 14).trans rfl
theorem q_23_14 {L : List Value} {a : Nat} {i : Int32} {v : Int64} {S : List Value} {Z : gZ} {I : gI} {J : gJ} (h : (gKd Z a).1 = 10) (h0 : 0 ≤ i) (h1 : i.toNatClampNeg < (gKd Z a).2) : g_at 23 14 L (.long v :: .int i :: .ref a :: S) Z I J = g_at 23 15 L S Z I (va_up J a (va_up (J a) i.toNatClampNeg v)) := gq_last e_23_14 h h0 h1
theorem e_23_15 : g_Pg 23 15 = ga_aload 0 16 := (congrFun pg_23 15).trans rfl
theorem q_23_15 {l1 l2 : Value} {x : Nat} {S : List Value} {Z : gZ} {I : gI} {J : gJ} : g_at 23 15 [.ref x, l1, l2] S Z I J = g_at 23 16 [.ref x, l1, l2] (.ref x :: S) Z I J := gq_aload e_23_15 rfl
theorem e_23_16 : g_Pg 23 16 = ga_getR 2 1 19 := (congrFun pg_23 16).trans rfl
theorem q_23_16 {L : List Value} {a : Nat} {S : List Value} {Z : gZ} {I : gI} {J : gJ} (h : (gKd Z a).1 = 2) (h1 : gRs Z a 1 = true) : g_at 23 16 L (.ref a :: S) Z I J = g_at 23 19 L (.ref (gRq Z a 1) :: S) Z I J := gq_getR e_23_16 h h1
theorem e_23_19 : g_Pg 23 19 = ga_iload 2 20 := (congrFun pg_23 19).trans rfl
theorem q_23_19 {l0 l1 : Value} {x : Int32} {S : List Value} {Z : gZ} {I : gI} {J : gJ} : g_at 23 19 [l0, l1, .int x] S Z I J = g_at 23 20 [l0, l1, .int x] (.int x :: S) Z I J := gq_iload e_23_19 rfl
theorem e_23_20 : g_Pg 23 20 = ga_push (.int 0) 21 := (congrFun pg_23 20).trans rfl
theorem q_23_20 {L : List Value} {S : List Value} {Z : gZ} {I : gI} {J : gJ} : g_at 23 20 L S Z I J = g_at 23 21 L (.int 0 :: S) Z I J := gq_push e_23_20
theorem e_23_21 : g_Pg 23 21 = ga_iast 22 := (congrFun pg_23 21).trans rfl
theorem q_23_21 {L : List Value} {a : Nat} {i : Int32} {v : Int32} {S : List Value} {Z : gZ} {I : gI} {J : gJ} (h : (gKd Z a).1 = 8) (h0 : 0 ≤ i) (h1 : i.toNatClampNeg < (gKd Z a).2) : g_at 23 21 L (.int v :: .int i :: .ref a :: S) Z I J = g_at 23 22 L S Z (va_up I a (va_up (I a) i.toNatClampNeg v)) J := gq_iast e_23_21 h h0 h1
theorem e_23_22 : g_Pg 23 22 = ga_aload 0 23 := (congrFun pg_23 22).trans rfl
theorem q_23_22 {l1 l2 : Value} {x : Nat} {S : List Value} {Z : gZ} {I : gI} {J : gJ} : g_at 23 22 [.ref x, l1, l2] S Z I J = g_at 23 23 [.ref x, l1, l2] (.ref x :: S) Z I J := gq_aload e_23_22 rfl
theorem e_23_23 : g_Pg 23 23 = ga_getR 2 2 26 := (congrFun pg_23 23).trans rfl
theorem q_23_23 {L : List Value} {a : Nat} {S : List Value} {Z : gZ} {I : gI} {J : gJ} (h : (gKd Z a).1 = 2) (h1 : gRs Z a 2 = true) : g_at 23 23 L (.ref a :: S) Z I J = g_at 23 26 L (.ref (gRq Z a 2) :: S) Z I J := gq_getR e_23_23 h h1
theorem e_23_26 : g_Pg 23 26 = ga_iload 2 27 := (congrFun pg_23 26).trans rfl
theorem q_23_26 {l0 l1 : Value} {x : Int32} {S : List Value} {Z : gZ} {I : gI} {J : gJ} : g_at 23 26 [l0, l1, .int x] S Z I J = g_at 23 27 [l0, l1, .int x] (.int x :: S) Z I J := gq_iload e_23_26 rfl
theorem e_23_27 : g_Pg 23 27 = ga_push (.int 0) 28 := (congrFun pg_23 27).trans rfl
theorem q_23_27 {L : List Value} {S : List Value} {Z : gZ} {I : gI} {J : gJ} : g_at 23 27 L S Z I J = g_at 23 28 L (.int 0 :: S) Z I J := gq_push e_23_27
theorem e_23_28 : g_Pg 23 28 = ga_bast 29 := (congrFun pg_23 28).trans rfl
theorem q_23_28 {L : List Value} {a : Nat} {i : Int32} {v : Int32} {S : List Value} {Z : gZ} {I : gI} {J : gJ} (h : (gKd Z a).1 = 9) (h0 : 0 ≤ i) (h1 : i.toNatClampNeg < (gKd Z a).2) (h2 : gB01 v = true) : g_at 23 28 L (.int v :: .int i :: .ref a :: S) Z I J = g_at 23 29 L S Z (va_up I a (va_up (I a) i.toNatClampNeg v)) J := gq_bast e_23_28 h h0 h1 h2
theorem e_23_29 : g_Pg 23 29 = ga_iinc 2 1 32 := (congrFun pg_23 29).trans rfl
theorem q_23_29 {l0 l1 : Value} {x : Int32} {S : List Value} {Z : gZ} {I : gI} {J : gJ} (h : gN1 l1 = true) : g_at 23 29 [l0, l1, .int x] S Z I J = g_at 23 32 [l0, l1, .int (x + 1)] S Z I J := gq_iinc e_23_29 rfl h rfl
theorem e_23_32 : g_Pg 23 32 = ga_goto 2 := (congrFun pg_23 32).trans rfl
theorem q_23_32 {L : List Value} {S : List Value} {Z : gZ} {I : gI} {J : gJ} : g_at 23 32 L S Z I J = g_at 23 2 L S Z I J := gq_goto e_23_32
theorem e_23_35 : g_Pg 23 35 = ga_aload 0 36 := (congrFun pg_23 35).trans rfl
theorem q_23_35 {l1 l2 : Value} {x : Nat} {S : List Value} {Z : gZ} {I : gI} {J : gJ} : g_at 23 35 [.ref x, l1, l2] S Z I J = g_at 23 36 [.ref x, l1, l2] (.ref x :: S) Z I J := gq_aload e_23_35 rfl
theorem e_23_36 : g_Pg 23 36 = ga_push (.int 0) 37 := (congrFun pg_23 36).trans rfl
theorem q_23_36 {L : List Value} {S : List Value} {Z : gZ} {I : gI} {J : gJ} : g_at 23 36 L S Z I J = g_at 23 37 L (.int 0 :: S) Z I J := gq_push e_23_36
theorem e_23_37 : g_Pg 23 37 = ga_putI 2 3 40 := (congrFun pg_23 37).trans rfl
theorem q_23_37 {L : List Value} {a : Nat} {v : Int32} {S : List Value} {Z : gZ} {I : gI} {J : gJ} (h : (gKd Z a).1 = 2) : g_at 23 37 L (.int v :: .ref a :: S) Z I J = g_at 23 40 L S Z (va_up I a (va_up (I a) 3 v)) J := gq_putI e_23_37 h
theorem e_23_40 : g_Pg 23 40 = ga_aload 0 41 := (congrFun pg_23 40).trans rfl
theorem q_23_40 {l1 l2 : Value} {x : Nat} {S : List Value} {Z : gZ} {I : gI} {J : gJ} : g_at 23 40 [.ref x, l1, l2] S Z I J = g_at 23 41 [.ref x, l1, l2] (.ref x :: S) Z I J := gq_aload e_23_40 rfl
theorem e_23_41 : g_Pg 23 41 = ga_iload 1 42 := (congrFun pg_23 41).trans rfl
theorem q_23_41 {l0 l2 : Value} {x : Int32} {S : List Value} {Z : gZ} {I : gI} {J : gJ} : g_at 23 41 [l0, .int x, l2] S Z I J = g_at 23 42 [l0, .int x, l2] (.int x :: S) Z I J := gq_iload e_23_41 rfl
theorem e_23_42 : g_Pg 23 42 = ga_putI 2 4 45 := (congrFun pg_23 42).trans rfl
theorem q_23_42 {L : List Value} {a : Nat} {v : Int32} {S : List Value} {Z : gZ} {I : gI} {J : gJ} (h : (gKd Z a).1 = 2) : g_at 23 42 L (.int v :: .ref a :: S) Z I J = g_at 23 45 L S Z (va_up I a (va_up (I a) 4 v)) J := gq_putI e_23_42 h
theorem e_23_45 : g_Pg 23 45 = ga_vret := (congrFun pg_23 45).trans rfl
theorem q_23_45 {L : List Value} {Z : gZ} {I : gI} {J : gJ} : g_at 23 45 L [] Z I J = some (none, Z, I, J) := gq_vret e_23_45
theorem e_24_0 : g_Pg 24 0 = ga_push (.int 0) 1 := (congrFun pg_24 0).trans rfl
theorem q_24_0 {L : List Value} {S : List Value} {Z : gZ} {I : gI} {J : gJ} : g_at 24 0 L S Z I J = g_at 24 1 L (.int 0 :: S) Z I J := gq_push e_24_0
theorem e_24_1 : g_Pg 24 1 = ga_istore 2 2 := (congrFun pg_24 1).trans rfl
theorem q_24_1 {l0 l1 l2 : Value} {x : Int32} {S : List Value} {Z : gZ} {I : gI} {J : gJ} (h : gN1 l1 = true) : g_at 24 1 [l0, l1, l2] (.int x :: S) Z I J = g_at 24 2 [l0, l1, .int x] S Z I J := gq_istore e_24_1 h rfl rfl
theorem e_24_2 : g_Pg 24 2 = ga_iload 2 3 := (congrFun pg_24 2).trans rfl
theorem q_24_2 {l0 l1 : Value} {x : Int32} {S : List Value} {Z : gZ} {I : gI} {J : gJ} : g_at 24 2 [l0, l1, .int x] S Z I J = g_at 24 3 [l0, l1, .int x] (.int x :: S) Z I J := gq_iload e_24_2 rfl
theorem e_24_3 : g_Pg 24 3 = ga_push (.int 10) 5 := (congrFun pg_24 3).trans rfl
theorem q_24_3 {L : List Value} {S : List Value} {Z : gZ} {I : gI} {J : gJ} : g_at 24 3 L S Z I J = g_at 24 5 L (.int 10 :: S) Z I J := gq_push e_24_3
theorem e_24_5 : g_Pg 24 5 = ga_cmp (fun x y => decide (y ≤ x)) 50 8 := (congrFun pg_24 5).trans rfl
theorem q_24_5 {L : List Value} {x y : Int32} {S : List Value} {Z : gZ} {I : gI} {J : gJ} : g_at 24 5 L (.int y :: .int x :: S) Z I J = if y ≤ x then g_at 24 50 L S Z I J else g_at 24 8 L S Z I J := gq_cmp e_24_5 rfl
theorem e_24_8 : g_Pg 24 8 = ga_aload 0 9 := (congrFun pg_24 8).trans rfl
theorem q_24_8 {l1 l2 : Value} {x : Nat} {S : List Value} {Z : gZ} {I : gI} {J : gJ} : g_at 24 8 [.ref x, l1, l2] S Z I J = g_at 24 9 [.ref x, l1, l2] (.ref x :: S) Z I J := gq_aload e_24_8 rfl
theorem e_24_9 : g_Pg 24 9 = ga_getR 2 0 12 := (congrFun pg_24 9).trans rfl
theorem q_24_9 {L : List Value} {a : Nat} {S : List Value} {Z : gZ} {I : gI} {J : gJ} (h : (gKd Z a).1 = 2) (h1 : gRs Z a 0 = true) : g_at 24 9 L (.ref a :: S) Z I J = g_at 24 12 L (.ref (gRq Z a 0) :: S) Z I J := gq_getR e_24_9 h h1
theorem e_24_12 : g_Pg 24 12 = ga_iload 2 13 := (congrFun pg_24 12).trans rfl
theorem q_24_12 {l0 l1 : Value} {x : Int32} {S : List Value} {Z : gZ} {I : gI} {J : gJ} : g_at 24 12 [l0, l1, .int x] S Z I J = g_at 24 13 [l0, l1, .int x] (.int x :: S) Z I J := gq_iload e_24_12 rfl
theorem e_24_13 : g_Pg 24 13 = ga_aload 1 14 := (congrFun pg_24 13).trans rfl
theorem q_24_13 {l0 l2 : Value} {x : Nat} {S : List Value} {Z : gZ} {I : gI} {J : gJ} : g_at 24 13 [l0, .ref x, l2] S Z I J = g_at 24 14 [l0, .ref x, l2] (.ref x :: S) Z I J := gq_aload e_24_13 rfl
theorem e_24_14 : g_Pg 24 14 = ga_getR 2 0 17 := (congrFun pg_24 14).trans rfl
theorem q_24_14 {L : List Value} {a : Nat} {S : List Value} {Z : gZ} {I : gI} {J : gJ} (h : (gKd Z a).1 = 2) (h1 : gRs Z a 0 = true) : g_at 24 14 L (.ref a :: S) Z I J = g_at 24 17 L (.ref (gRq Z a 0) :: S) Z I J := gq_getR e_24_14 h h1
theorem e_24_17 : g_Pg 24 17 = ga_iload 2 18 := (congrFun pg_24 17).trans rfl
theorem q_24_17 {l0 l1 : Value} {x : Int32} {S : List Value} {Z : gZ} {I : gI} {J : gJ} : g_at 24 17 [l0, l1, .int x] S Z I J = g_at 24 18 [l0, l1, .int x] (.int x :: S) Z I J := gq_iload e_24_17 rfl
theorem e_24_18 : g_Pg 24 18 = ga_lald 19 := (congrFun pg_24 18).trans rfl
theorem q_24_18 {L : List Value} {a : Nat} {i : Int32} {S : List Value} {Z : gZ} {I : gI} {J : gJ} (h : (gKd Z a).1 = 10) (h0 : 0 ≤ i) (h1 : i.toNatClampNeg < (gKd Z a).2) : g_at 24 18 L (.int i :: .ref a :: S) Z I J = g_at 24 19 L (.long (J a i.toNatClampNeg) :: S) Z I J := gq_lald e_24_18 h h0 h1
theorem e_24_19 : g_Pg 24 19 = ga_last 20 := (congrFun pg_24 19).trans rfl
theorem q_24_19 {L : List Value} {a : Nat} {i : Int32} {v : Int64} {S : List Value} {Z : gZ} {I : gI} {J : gJ} (h : (gKd Z a).1 = 10) (h0 : 0 ≤ i) (h1 : i.toNatClampNeg < (gKd Z a).2) : g_at 24 19 L (.long v :: .int i :: .ref a :: S) Z I J = g_at 24 20 L S Z I (va_up J a (va_up (J a) i.toNatClampNeg v)) := gq_last e_24_19 h h0 h1
theorem e_24_20 : g_Pg 24 20 = ga_aload 0 21 := (congrFun pg_24 20).trans rfl
theorem q_24_20 {l1 l2 : Value} {x : Nat} {S : List Value} {Z : gZ} {I : gI} {J : gJ} : g_at 24 20 [.ref x, l1, l2] S Z I J = g_at 24 21 [.ref x, l1, l2] (.ref x :: S) Z I J := gq_aload e_24_20 rfl
theorem e_24_21 : g_Pg 24 21 = ga_getR 2 1 24 := (congrFun pg_24 21).trans rfl
theorem q_24_21 {L : List Value} {a : Nat} {S : List Value} {Z : gZ} {I : gI} {J : gJ} (h : (gKd Z a).1 = 2) (h1 : gRs Z a 1 = true) : g_at 24 21 L (.ref a :: S) Z I J = g_at 24 24 L (.ref (gRq Z a 1) :: S) Z I J := gq_getR e_24_21 h h1
theorem e_24_24 : g_Pg 24 24 = ga_iload 2 25 := (congrFun pg_24 24).trans rfl
theorem q_24_24 {l0 l1 : Value} {x : Int32} {S : List Value} {Z : gZ} {I : gI} {J : gJ} : g_at 24 24 [l0, l1, .int x] S Z I J = g_at 24 25 [l0, l1, .int x] (.int x :: S) Z I J := gq_iload e_24_24 rfl
theorem e_24_25 : g_Pg 24 25 = ga_aload 1 26 := (congrFun pg_24 25).trans rfl
theorem q_24_25 {l0 l2 : Value} {x : Nat} {S : List Value} {Z : gZ} {I : gI} {J : gJ} : g_at 24 25 [l0, .ref x, l2] S Z I J = g_at 24 26 [l0, .ref x, l2] (.ref x :: S) Z I J := gq_aload e_24_25 rfl
theorem e_24_26 : g_Pg 24 26 = ga_getR 2 1 29 := (congrFun pg_24 26).trans rfl
theorem q_24_26 {L : List Value} {a : Nat} {S : List Value} {Z : gZ} {I : gI} {J : gJ} (h : (gKd Z a).1 = 2) (h1 : gRs Z a 1 = true) : g_at 24 26 L (.ref a :: S) Z I J = g_at 24 29 L (.ref (gRq Z a 1) :: S) Z I J := gq_getR e_24_26 h h1
theorem e_24_29 : g_Pg 24 29 = ga_iload 2 30 := (congrFun pg_24 29).trans rfl
theorem q_24_29 {l0 l1 : Value} {x : Int32} {S : List Value} {Z : gZ} {I : gI} {J : gJ} : g_at 24 29 [l0, l1, .int x] S Z I J = g_at 24 30 [l0, l1, .int x] (.int x :: S) Z I J := gq_iload e_24_29 rfl
theorem e_24_30 : g_Pg 24 30 = ga_iald 31 := (congrFun pg_24 30).trans rfl
theorem q_24_30 {L : List Value} {a : Nat} {i : Int32} {S : List Value} {Z : gZ} {I : gI} {J : gJ} (h : gTg8 (gKd Z a).1 a = true) (h0 : 0 ≤ i) (h1 : i.toNatClampNeg < (gKd Z a).2) : g_at 24 30 L (.int i :: .ref a :: S) Z I J = g_at 24 31 L (.int (I a i.toNatClampNeg) :: S) Z I J := gq_iald e_24_30 h h0 h1
theorem e_24_31 : g_Pg 24 31 = ga_iast 32 := (congrFun pg_24 31).trans rfl
theorem q_24_31 {L : List Value} {a : Nat} {i : Int32} {v : Int32} {S : List Value} {Z : gZ} {I : gI} {J : gJ} (h : (gKd Z a).1 = 8) (h0 : 0 ≤ i) (h1 : i.toNatClampNeg < (gKd Z a).2) : g_at 24 31 L (.int v :: .int i :: .ref a :: S) Z I J = g_at 24 32 L S Z (va_up I a (va_up (I a) i.toNatClampNeg v)) J := gq_iast e_24_31 h h0 h1
theorem e_24_32 : g_Pg 24 32 = ga_aload 0 33 := (congrFun pg_24 32).trans rfl
theorem q_24_32 {l1 l2 : Value} {x : Nat} {S : List Value} {Z : gZ} {I : gI} {J : gJ} : g_at 24 32 [.ref x, l1, l2] S Z I J = g_at 24 33 [.ref x, l1, l2] (.ref x :: S) Z I J := gq_aload e_24_32 rfl
theorem e_24_33 : g_Pg 24 33 = ga_getR 2 2 36 := (congrFun pg_24 33).trans rfl
theorem q_24_33 {L : List Value} {a : Nat} {S : List Value} {Z : gZ} {I : gI} {J : gJ} (h : (gKd Z a).1 = 2) (h1 : gRs Z a 2 = true) : g_at 24 33 L (.ref a :: S) Z I J = g_at 24 36 L (.ref (gRq Z a 2) :: S) Z I J := gq_getR e_24_33 h h1
theorem e_24_36 : g_Pg 24 36 = ga_iload 2 37 := (congrFun pg_24 36).trans rfl
theorem q_24_36 {l0 l1 : Value} {x : Int32} {S : List Value} {Z : gZ} {I : gI} {J : gJ} : g_at 24 36 [l0, l1, .int x] S Z I J = g_at 24 37 [l0, l1, .int x] (.int x :: S) Z I J := gq_iload e_24_36 rfl
theorem e_24_37 : g_Pg 24 37 = ga_aload 1 38 := (congrFun pg_24 37).trans rfl
theorem q_24_37 {l0 l2 : Value} {x : Nat} {S : List Value} {Z : gZ} {I : gI} {J : gJ} : g_at 24 37 [l0, .ref x, l2] S Z I J = g_at 24 38 [l0, .ref x, l2] (.ref x :: S) Z I J := gq_aload e_24_37 rfl
theorem e_24_38 : g_Pg 24 38 = ga_getR 2 2 41 := (congrFun pg_24 38).trans rfl
theorem q_24_38 {L : List Value} {a : Nat} {S : List Value} {Z : gZ} {I : gI} {J : gJ} (h : (gKd Z a).1 = 2) (h1 : gRs Z a 2 = true) : g_at 24 38 L (.ref a :: S) Z I J = g_at 24 41 L (.ref (gRq Z a 2) :: S) Z I J := gq_getR e_24_38 h h1
theorem e_24_41 : g_Pg 24 41 = ga_iload 2 42 := (congrFun pg_24 41).trans rfl
theorem q_24_41 {l0 l1 : Value} {x : Int32} {S : List Value} {Z : gZ} {I : gI} {J : gJ} : g_at 24 41 [l0, l1, .int x] S Z I J = g_at 24 42 [l0, l1, .int x] (.int x :: S) Z I J := gq_iload e_24_41 rfl
theorem e_24_42 : g_Pg 24 42 = ga_bald 43 := (congrFun pg_24 42).trans rfl
theorem q_24_42 {L : List Value} {a : Nat} {i : Int32} {S : List Value} {Z : gZ} {I : gI} {J : gJ} (h : gTg9 (gKd Z a).1 a = true) (h0 : 0 ≤ i) (h1 : i.toNatClampNeg < (gKd Z a).2) : g_at 24 42 L (.int i :: .ref a :: S) Z I J = g_at 24 43 L (.int (I a i.toNatClampNeg) :: S) Z I J := gq_bald e_24_42 h h0 h1
theorem e_24_43 : g_Pg 24 43 = ga_bast 44 := (congrFun pg_24 43).trans rfl
theorem q_24_43 {L : List Value} {a : Nat} {i : Int32} {v : Int32} {S : List Value} {Z : gZ} {I : gI} {J : gJ} (h : (gKd Z a).1 = 9) (h0 : 0 ≤ i) (h1 : i.toNatClampNeg < (gKd Z a).2) (h2 : gB01 v = true) : g_at 24 43 L (.int v :: .int i :: .ref a :: S) Z I J = g_at 24 44 L S Z (va_up I a (va_up (I a) i.toNatClampNeg v)) J := gq_bast e_24_43 h h0 h1 h2
theorem e_24_44 : g_Pg 24 44 = ga_iinc 2 1 47 := (congrFun pg_24 44).trans rfl
theorem q_24_44 {l0 l1 : Value} {x : Int32} {S : List Value} {Z : gZ} {I : gI} {J : gJ} (h : gN1 l1 = true) : g_at 24 44 [l0, l1, .int x] S Z I J = g_at 24 47 [l0, l1, .int (x + 1)] S Z I J := gq_iinc e_24_44 rfl h rfl
theorem e_24_47 : g_Pg 24 47 = ga_goto 2 := (congrFun pg_24 47).trans rfl
theorem q_24_47 {L : List Value} {S : List Value} {Z : gZ} {I : gI} {J : gJ} : g_at 24 47 L S Z I J = g_at 24 2 L S Z I J := gq_goto e_24_47
theorem e_24_50 : g_Pg 24 50 = ga_aload 0 51 := (congrFun pg_24 50).trans rfl
theorem q_24_50 {l1 l2 : Value} {x : Nat} {S : List Value} {Z : gZ} {I : gI} {J : gJ} : g_at 24 50 [.ref x, l1, l2] S Z I J = g_at 24 51 [.ref x, l1, l2] (.ref x :: S) Z I J := gq_aload e_24_50 rfl
theorem e_24_51 : g_Pg 24 51 = ga_aload 1 52 := (congrFun pg_24 51).trans rfl
theorem q_24_51 {l0 l2 : Value} {x : Nat} {S : List Value} {Z : gZ} {I : gI} {J : gJ} : g_at 24 51 [l0, .ref x, l2] S Z I J = g_at 24 52 [l0, .ref x, l2] (.ref x :: S) Z I J := gq_aload e_24_51 rfl
theorem e_24_52 : g_Pg 24 52 = ga_getI 2 3 55 := (congrFun pg_24 52).trans rfl
theorem q_24_52 {L : List Value} {a : Nat} {S : List Value} {Z : gZ} {I : gI} {J : gJ} (h : (gKd Z a).1 = 2) : g_at 24 52 L (.ref a :: S) Z I J = g_at 24 55 L (.int (I a 3) :: S) Z I J := gq_getI e_24_52 h
theorem e_24_55 : g_Pg 24 55 = ga_putI 2 3 58 := (congrFun pg_24 55).trans rfl
theorem q_24_55 {L : List Value} {a : Nat} {v : Int32} {S : List Value} {Z : gZ} {I : gI} {J : gJ} (h : (gKd Z a).1 = 2) : g_at 24 55 L (.int v :: .ref a :: S) Z I J = g_at 24 58 L S Z (va_up I a (va_up (I a) 3 v)) J := gq_putI e_24_55 h
theorem e_24_58 : g_Pg 24 58 = ga_aload 0 59 := (congrFun pg_24 58).trans rfl
theorem q_24_58 {l1 l2 : Value} {x : Nat} {S : List Value} {Z : gZ} {I : gI} {J : gJ} : g_at 24 58 [.ref x, l1, l2] S Z I J = g_at 24 59 [.ref x, l1, l2] (.ref x :: S) Z I J := gq_aload e_24_58 rfl
theorem e_24_59 : g_Pg 24 59 = ga_aload 1 60 := (congrFun pg_24 59).trans rfl
theorem q_24_59 {l0 l2 : Value} {x : Nat} {S : List Value} {Z : gZ} {I : gI} {J : gJ} : g_at 24 59 [l0, .ref x, l2] S Z I J = g_at 24 60 [l0, .ref x, l2] (.ref x :: S) Z I J := gq_aload e_24_59 rfl
theorem e_24_60 : g_Pg 24 60 = ga_getI 2 4 63 := (congrFun pg_24 60).trans rfl
theorem q_24_60 {L : List Value} {a : Nat} {S : List Value} {Z : gZ} {I : gI} {J : gJ} (h : (gKd Z a).1 = 2) : g_at 24 60 L (.ref a :: S) Z I J = g_at 24 63 L (.int (I a 4) :: S) Z I J := gq_getI e_24_60 h
theorem e_24_63 : g_Pg 24 63 = ga_putI 2 4 66 := (congrFun pg_24 63).trans rfl
theorem q_24_63 {L : List Value} {a : Nat} {v : Int32} {S : List Value} {Z : gZ} {I : gI} {J : gJ} (h : (gKd Z a).1 = 2) : g_at 24 63 L (.int v :: .ref a :: S) Z I J = g_at 24 66 L S Z (va_up I a (va_up (I a) 4 v)) J := gq_putI e_24_63 h
theorem e_24_66 : g_Pg 24 66 = ga_vret := (congrFun pg_24 66).trans rfl
theorem q_24_66 {L : List Value} {Z : gZ} {I : gI} {J : gJ} : g_at 24 66 L [] Z I J = some (none, Z, I, J) := gq_vret e_24_66
theorem e_25_0 : g_Pg 25 0 = ga_aload 0 1 := (congrFun pg_25 0).trans rfl
theorem q_25_0 {l1 l2 l3 l4 : Value} {x : Nat} {S : List Value} {Z : gZ} {I : gI} {J : gJ} : g_at 25 0 [.ref x, l1, l2, l3, l4] S Z I J = g_at 25 1 [.ref x, l1, l2, l3, l4] (.ref x :: S) Z I J := gq_aload e_25_0 rfl
theorem e_25_1 : g_Pg 25 1 = ga_getR 2 1 4 := (congrFun pg_25 1).trans rfl
theorem q_25_1 {L : List Value} {a : Nat} {S : List Value} {Z : gZ} {I : gI} {J : gJ} (h : (gKd Z a).1 = 2) (h1 : gRs Z a 1 = true) : g_at 25 1 L (.ref a :: S) Z I J = g_at 25 4 L (.ref (gRq Z a 1) :: S) Z I J := gq_getR e_25_1 h h1
theorem e_25_4 : g_Pg 25 4 = ga_iload 2 5 := (congrFun pg_25 4).trans rfl
theorem q_25_4 {l0 l1 l3 l4 : Value} {x : Int32} {S : List Value} {Z : gZ} {I : gI} {J : gJ} : g_at 25 4 [l0, l1, .int x, l3, l4] S Z I J = g_at 25 5 [l0, l1, .int x, l3, l4] (.int x :: S) Z I J := gq_iload e_25_4 rfl
theorem e_25_5 : g_Pg 25 5 = ga_dup2 6 := (congrFun pg_25 5).trans rfl
theorem q_25_5 {L : List Value} {x : Nat} {y : Int32} {S : List Value} {Z : gZ} {I : gI} {J : gJ} : g_at 25 5 L (.int y :: .ref x :: S) Z I J = g_at 25 6 L (.int y :: .ref x :: .int y :: .ref x :: S) Z I J := gq_dup2 e_25_5
theorem e_25_6 : g_Pg 25 6 = ga_iald 7 := (congrFun pg_25 6).trans rfl
theorem q_25_6 {L : List Value} {a : Nat} {i : Int32} {S : List Value} {Z : gZ} {I : gI} {J : gJ} (h : gTg8 (gKd Z a).1 a = true) (h0 : 0 ≤ i) (h1 : i.toNatClampNeg < (gKd Z a).2) : g_at 25 6 L (.int i :: .ref a :: S) Z I J = g_at 25 7 L (.int (I a i.toNatClampNeg) :: S) Z I J := gq_iald e_25_6 h h0 h1
theorem e_25_7 : g_Pg 25 7 = ga_push (.int 1) 8 := (congrFun pg_25 7).trans rfl
theorem q_25_7 {L : List Value} {S : List Value} {Z : gZ} {I : gI} {J : gJ} : g_at 25 7 L S Z I J = g_at 25 8 L (.int 1 :: S) Z I J := gq_push e_25_7
theorem e_25_8 : g_Pg 25 8 = ga_bin (fun x y => x + y) 9 := (congrFun pg_25 8).trans rfl
theorem q_25_8 {L : List Value} {x y : Int32} {S : List Value} {Z : gZ} {I : gI} {J : gJ} : g_at 25 8 L (.int y :: .int x :: S) Z I J = g_at 25 9 L (.int (x + y) :: S) Z I J := gq_bin e_25_8
theorem e_25_9 : g_Pg 25 9 = ga_iast 10 := (congrFun pg_25 9).trans rfl
theorem q_25_9 {L : List Value} {a : Nat} {i : Int32} {v : Int32} {S : List Value} {Z : gZ} {I : gI} {J : gJ} (h : (gKd Z a).1 = 8) (h0 : 0 ≤ i) (h1 : i.toNatClampNeg < (gKd Z a).2) : g_at 25 9 L (.int v :: .int i :: .ref a :: S) Z I J = g_at 25 10 L S Z (va_up I a (va_up (I a) i.toNatClampNeg v)) J := gq_iast e_25_9 h h0 h1
theorem e_25_10 : g_Pg 25 10 = ga_push (.int 0) 11 := (congrFun pg_25 10).trans rfl
theorem q_25_10 {L : List Value} {S : List Value} {Z : gZ} {I : gI} {J : gJ} : g_at 25 10 L S Z I J = g_at 25 11 L (.int 0 :: S) Z I J := gq_push e_25_10
theorem e_25_11 : g_Pg 25 11 = ga_istore 3 12 := (congrFun pg_25 11).trans rfl
theorem q_25_11 {l0 l1 l2 l3 l4 : Value} {x : Int32} {S : List Value} {Z : gZ} {I : gI} {J : gJ} (h : gN1 l2 = true) : g_at 25 11 [l0, l1, l2, l3, l4] (.int x :: S) Z I J = g_at 25 12 [l0, l1, l2, .int x, l4] S Z I J := gq_istore e_25_11 h rfl rfl
theorem e_25_12 : g_Pg 25 12 = ga_push (.int 0) 13 := (congrFun pg_25 12).trans rfl
theorem q_25_12 {L : List Value} {S : List Value} {Z : gZ} {I : gI} {J : gJ} : g_at 25 12 L S Z I J = g_at 25 13 L (.int 0 :: S) Z I J := gq_push e_25_12
theorem e_25_13 : g_Pg 25 13 = ga_istore 4 15 := (congrFun pg_25 13).trans rfl
theorem q_25_13 {l0 l1 l2 l3 l4 : Value} {x : Int32} {S : List Value} {Z : gZ} {I : gI} {J : gJ} (h : gN1 l3 = true) : g_at 25 13 [l0, l1, l2, l3, l4] (.int x :: S) Z I J = g_at 25 15 [l0, l1, l2, l3, .int x] S Z I J := gq_istore e_25_13 h rfl rfl
theorem e_25_15 : g_Pg 25 15 = ga_iload 4 17 := (congrFun pg_25 15).trans rfl
theorem q_25_15 {l0 l1 l2 l3 : Value} {x : Int32} {S : List Value} {Z : gZ} {I : gI} {J : gJ} : g_at 25 15 [l0, l1, l2, l3, .int x] S Z I J = g_at 25 17 [l0, l1, l2, l3, .int x] (.int x :: S) Z I J := gq_iload e_25_15 rfl
theorem e_25_17 : g_Pg 25 17 = ga_aload 1 18 := (congrFun pg_25 17).trans rfl
theorem q_25_17 {l0 l2 l3 l4 : Value} {x : Nat} {S : List Value} {Z : gZ} {I : gI} {J : gJ} : g_at 25 17 [l0, .ref x, l2, l3, l4] S Z I J = g_at 25 18 [l0, .ref x, l2, l3, l4] (.ref x :: S) Z I J := gq_aload e_25_17 rfl
theorem e_25_18 : g_Pg 25 18 = ga_getI 0 4 21 := (congrFun pg_25 18).trans rfl
theorem q_25_18 {L : List Value} {a : Nat} {S : List Value} {Z : gZ} {I : gI} {J : gJ} (h : (gKd Z a).1 = 0) : g_at 25 18 L (.ref a :: S) Z I J = g_at 25 21 L (.int (I a 4) :: S) Z I J := gq_getI e_25_18 h
theorem e_25_21 : g_Pg 25 21 = ga_cmp (fun x y => decide (y ≤ x)) 93 24 := (congrFun pg_25 21).trans rfl
theorem q_25_21 {L : List Value} {x y : Int32} {S : List Value} {Z : gZ} {I : gI} {J : gJ} : g_at 25 21 L (.int y :: .int x :: S) Z I J = if y ≤ x then g_at 25 93 L S Z I J else g_at 25 24 L S Z I J := gq_cmp e_25_21 rfl
theorem e_25_24 : g_Pg 25 24 = ga_aload 1 25 := (congrFun pg_25 24).trans rfl
theorem q_25_24 {l0 l2 l3 l4 : Value} {x : Nat} {S : List Value} {Z : gZ} {I : gI} {J : gJ} : g_at 25 24 [l0, .ref x, l2, l3, l4] S Z I J = g_at 25 25 [l0, .ref x, l2, l3, l4] (.ref x :: S) Z I J := gq_aload e_25_24 rfl
theorem e_25_25 : g_Pg 25 25 = ga_getR 0 0 28 := (congrFun pg_25 25).trans rfl
theorem q_25_25 {L : List Value} {a : Nat} {S : List Value} {Z : gZ} {I : gI} {J : gJ} (h : (gKd Z a).1 = 0) (h1 : gRs Z a 0 = true) : g_at 25 25 L (.ref a :: S) Z I J = g_at 25 28 L (.ref (gRq Z a 0) :: S) Z I J := gq_getR e_25_25 h h1
theorem e_25_28 : g_Pg 25 28 = ga_iload 4 30 := (congrFun pg_25 28).trans rfl
theorem q_25_28 {l0 l1 l2 l3 : Value} {x : Int32} {S : List Value} {Z : gZ} {I : gI} {J : gJ} : g_at 25 28 [l0, l1, l2, l3, .int x] S Z I J = g_at 25 30 [l0, l1, l2, l3, .int x] (.int x :: S) Z I J := gq_iload e_25_28 rfl
theorem e_25_30 : g_Pg 25 30 = ga_iald 31 := (congrFun pg_25 30).trans rfl
theorem q_25_30 {L : List Value} {a : Nat} {i : Int32} {S : List Value} {Z : gZ} {I : gI} {J : gJ} (h : gTg8 (gKd Z a).1 a = true) (h0 : 0 ≤ i) (h1 : i.toNatClampNeg < (gKd Z a).2) : g_at 25 30 L (.int i :: .ref a :: S) Z I J = g_at 25 31 L (.int (I a i.toNatClampNeg) :: S) Z I J := gq_iald e_25_30 h h0 h1
theorem e_25_31 : g_Pg 25 31 = ga_iload 2 32 := (congrFun pg_25 31).trans rfl
theorem q_25_31 {l0 l1 l3 l4 : Value} {x : Int32} {S : List Value} {Z : gZ} {I : gI} {J : gJ} : g_at 25 31 [l0, l1, .int x, l3, l4] S Z I J = g_at 25 32 [l0, l1, .int x, l3, l4] (.int x :: S) Z I J := gq_iload e_25_31 rfl
theorem e_25_32 : g_Pg 25 32 = ga_cmp (fun x y => decide (¬ x = y)) 87 35 := (congrFun pg_25 32).trans rfl
theorem q_25_32 {L : List Value} {x y : Int32} {S : List Value} {Z : gZ} {I : gI} {J : gJ} : g_at 25 32 L (.int y :: .int x :: S) Z I J = if ¬ x = y then g_at 25 87 L S Z I J else g_at 25 35 L S Z I J := gq_cmp e_25_32 rfl
theorem e_25_35 : g_Pg 25 35 = ga_aload 1 36 := (congrFun pg_25 35).trans rfl
theorem q_25_35 {l0 l2 l3 l4 : Value} {x : Nat} {S : List Value} {Z : gZ} {I : gI} {J : gJ} : g_at 25 35 [l0, .ref x, l2, l3, l4] S Z I J = g_at 25 36 [l0, .ref x, l2, l3, l4] (.ref x :: S) Z I J := gq_aload e_25_35 rfl
theorem e_25_36 : g_Pg 25 36 = ga_iload 4 38 := (congrFun pg_25 36).trans rfl
theorem q_25_36 {l0 l1 l2 l3 : Value} {x : Int32} {S : List Value} {Z : gZ} {I : gI} {J : gJ} : g_at 25 36 [l0, l1, l2, l3, .int x] S Z I J = g_at 25 38 [l0, l1, l2, l3, .int x] (.int x :: S) Z I J := gq_iload e_25_36 rfl
theorem e_25_38 : g_Pg 25 38 = ga_aload 0 39 := (congrFun pg_25 38).trans rfl
theorem q_25_38 {l1 l2 l3 l4 : Value} {x : Nat} {S : List Value} {Z : gZ} {I : gI} {J : gJ} : g_at 25 38 [.ref x, l1, l2, l3, l4] S Z I J = g_at 25 39 [.ref x, l1, l2, l3, l4] (.ref x :: S) Z I J := gq_aload e_25_38 rfl
theorem e_25_39 : g_Pg 25 39 = ga_getI 2 4 42 := (congrFun pg_25 39).trans rfl
theorem q_25_39 {L : List Value} {a : Nat} {S : List Value} {Z : gZ} {I : gI} {J : gJ} (h : (gKd Z a).1 = 2) : g_at 25 39 L (.ref a :: S) Z I J = g_at 25 42 L (.int (I a 4) :: S) Z I J := gq_getI e_25_39 h
theorem e_25_42 : g_Pg 25 42 = ga_callV 0 4 2 45 := (congrFun pg_25 42).trans rfl
theorem q_25_42 {L : List Value} {a0 : Int32} {a1 : Int32} {a2 : Nat} {Z : gZ} {I : gI} {J : gJ} (h : (gKd Z a2).1 = 0) : g_at 25 42 L [.int a0, .int a1, .ref a2] Z I J = (g_at 4 0 [.ref a2, .int a1, .int a0] [] Z I J).bind (fun r => g_at 25 45 L (r.1.toList ++ []) r.2.1 r.2.2.1 r.2.2.2) := gq_callV e_25_42 rfl rfl h rfl rfl rfl rfl rfl
theorem e_25_45 : g_Pg 25 45 = ga_if (fun x => decide (x = 0)) 87 48 := (congrFun pg_25 45).trans rfl
theorem q_25_45 {L : List Value} {x : Int32} {S : List Value} {Z : gZ} {I : gI} {J : gJ} : g_at 25 45 L (.int x :: S) Z I J = if x = 0 then g_at 25 87 L S Z I J else g_at 25 48 L S Z I J := gq_if e_25_45 rfl
theorem e_25_48 : g_Pg 25 48 = ga_aload 0 49 := (congrFun pg_25 48).trans rfl
theorem q_25_48 {l1 l2 l3 l4 : Value} {x : Nat} {S : List Value} {Z : gZ} {I : gI} {J : gJ} : g_at 25 48 [.ref x, l1, l2, l3, l4] S Z I J = g_at 25 49 [.ref x, l1, l2, l3, l4] (.ref x :: S) Z I J := gq_aload e_25_48 rfl
theorem e_25_49 : g_Pg 25 49 = ga_aload 1 50 := (congrFun pg_25 49).trans rfl
theorem q_25_49 {l0 l2 l3 l4 : Value} {x : Nat} {S : List Value} {Z : gZ} {I : gI} {J : gJ} : g_at 25 49 [l0, .ref x, l2, l3, l4] S Z I J = g_at 25 50 [l0, .ref x, l2, l3, l4] (.ref x :: S) Z I J := gq_aload e_25_49 rfl
theorem e_25_50 : g_Pg 25 50 = ga_iload 4 52 := (congrFun pg_25 50).trans rfl
theorem q_25_50 {l0 l1 l2 l3 : Value} {x : Int32} {S : List Value} {Z : gZ} {I : gI} {J : gJ} : g_at 25 50 [l0, l1, l2, l3, .int x] S Z I J = g_at 25 52 [l0, l1, l2, l3, .int x] (.int x :: S) Z I J := gq_iload e_25_50 rfl
theorem e_25_52 : g_Pg 25 52 = ga_callV 2 26 2 55 := (congrFun pg_25 52).trans rfl
theorem q_25_52 {L : List Value} {a0 : Int32} {a1 : Nat} {a2 : Nat} {Z : gZ} {I : gI} {J : gJ} (h : (gKd Z a2).1 = 2) : g_at 25 52 L [.int a0, .ref a1, .ref a2] Z I J = (g_at 26 0 [.ref a2, .ref a1, .int a0] [] Z I J).bind (fun r => g_at 25 55 L (r.1.toList ++ []) r.2.1 r.2.2.1 r.2.2.2) := gq_callV e_25_52 rfl rfl h rfl rfl rfl rfl rfl
theorem e_25_55 : g_Pg 25 55 = ga_if (fun x => decide (x = 0)) 87 58 := (congrFun pg_25 55).trans rfl
theorem q_25_55 {L : List Value} {x : Int32} {S : List Value} {Z : gZ} {I : gI} {J : gJ} : g_at 25 55 L (.int x :: S) Z I J = if x = 0 then g_at 25 87 L S Z I J else g_at 25 58 L S Z I J := gq_if e_25_55 rfl
theorem e_25_58 : g_Pg 25 58 = ga_aload 0 59 := (congrFun pg_25 58).trans rfl
theorem q_25_58 {l1 l2 l3 l4 : Value} {x : Nat} {S : List Value} {Z : gZ} {I : gI} {J : gJ} : g_at 25 58 [.ref x, l1, l2, l3, l4] S Z I J = g_at 25 59 [.ref x, l1, l2, l3, l4] (.ref x :: S) Z I J := gq_aload e_25_58 rfl
theorem e_25_59 : g_Pg 25 59 = ga_getR 2 0 62 := (congrFun pg_25 59).trans rfl
theorem q_25_59 {L : List Value} {a : Nat} {S : List Value} {Z : gZ} {I : gI} {J : gJ} (h : (gKd Z a).1 = 2) (h1 : gRs Z a 0 = true) : g_at 25 59 L (.ref a :: S) Z I J = g_at 25 62 L (.ref (gRq Z a 0) :: S) Z I J := gq_getR e_25_59 h h1
theorem e_25_62 : g_Pg 25 62 = ga_iload 4 64 := (congrFun pg_25 62).trans rfl
theorem q_25_62 {l0 l1 l2 l3 : Value} {x : Int32} {S : List Value} {Z : gZ} {I : gI} {J : gJ} : g_at 25 62 [l0, l1, l2, l3, .int x] S Z I J = g_at 25 64 [l0, l1, l2, l3, .int x] (.int x :: S) Z I J := gq_iload e_25_62 rfl
theorem e_25_64 : g_Pg 25 64 = ga_dup2 65 := (congrFun pg_25 64).trans rfl
theorem q_25_64 {L : List Value} {x : Nat} {y : Int32} {S : List Value} {Z : gZ} {I : gI} {J : gJ} : g_at 25 64 L (.int y :: .ref x :: S) Z I J = g_at 25 65 L (.int y :: .ref x :: .int y :: .ref x :: S) Z I J := gq_dup2 e_25_64
theorem e_25_65 : g_Pg 25 65 = ga_lald 66 := (congrFun pg_25 65).trans rfl
theorem q_25_65 {L : List Value} {a : Nat} {i : Int32} {S : List Value} {Z : gZ} {I : gI} {J : gJ} (h : (gKd Z a).1 = 10) (h0 : 0 ≤ i) (h1 : i.toNatClampNeg < (gKd Z a).2) : g_at 25 65 L (.int i :: .ref a :: S) Z I J = g_at 25 66 L (.long (J a i.toNatClampNeg) :: S) Z I J := gq_lald e_25_65 h h0 h1
theorem e_25_66 : g_Pg 25 66 = ga_push (.long 1) 67 := (congrFun pg_25 66).trans rfl
theorem q_25_66 {L : List Value} {S : List Value} {Z : gZ} {I : gI} {J : gJ} : g_at 25 66 L S Z I J = g_at 25 67 L (.long 1 :: S) Z I J := gq_push e_25_66
theorem e_25_67 : g_Pg 25 67 = ga_aload 1 68 := (congrFun pg_25 67).trans rfl
theorem q_25_67 {l0 l2 l3 l4 : Value} {x : Nat} {S : List Value} {Z : gZ} {I : gI} {J : gJ} : g_at 25 67 [l0, .ref x, l2, l3, l4] S Z I J = g_at 25 68 [l0, .ref x, l2, l3, l4] (.ref x :: S) Z I J := gq_aload e_25_67 rfl
theorem e_25_68 : g_Pg 25 68 = ga_iload 4 70 := (congrFun pg_25 68).trans rfl
theorem q_25_68 {l0 l1 l2 l3 : Value} {x : Int32} {S : List Value} {Z : gZ} {I : gI} {J : gJ} : g_at 25 68 [l0, l1, l2, l3, .int x] S Z I J = g_at 25 70 [l0, l1, l2, l3, .int x] (.int x :: S) Z I J := gq_iload e_25_68 rfl
theorem e_25_70 : g_Pg 25 70 = ga_aload 0 71 := (congrFun pg_25 70).trans rfl
theorem q_25_70 {l1 l2 l3 l4 : Value} {x : Nat} {S : List Value} {Z : gZ} {I : gI} {J : gJ} : g_at 25 70 [.ref x, l1, l2, l3, l4] S Z I J = g_at 25 71 [.ref x, l1, l2, l3, l4] (.ref x :: S) Z I J := gq_aload e_25_70 rfl
theorem e_25_71 : g_Pg 25 71 = ga_getI 2 4 74 := (congrFun pg_25 71).trans rfl
theorem q_25_71 {L : List Value} {a : Nat} {S : List Value} {Z : gZ} {I : gI} {J : gJ} (h : (gKd Z a).1 = 2) : g_at 25 71 L (.ref a :: S) Z I J = g_at 25 74 L (.int (I a 4) :: S) Z I J := gq_getI e_25_71 h
theorem e_25_74 : g_Pg 25 74 = ga_callV 0 5 2 77 := (congrFun pg_25 74).trans rfl
theorem q_25_74 {L : List Value} {a0 : Int32} {a1 : Int32} {a2 : Nat} {r3 : Int64} {r4 : Int64} {r5 : Int32} {r6 : Nat} {Z : gZ} {I : gI} {J : gJ} (h : (gKd Z a2).1 = 0) : g_at 25 74 L [.int a0, .int a1, .ref a2, .long r3, .long r4, .int r5, .ref r6] Z I J = (g_at 5 0 [.ref a2, .int a1, .int a0, .null] [] Z I J).bind (fun r => g_at 25 77 L (r.1.toList ++ [.long r3, .long r4, .int r5, .ref r6]) r.2.1 r.2.2.1 r.2.2.2) := gq_callV e_25_74 rfl rfl h rfl rfl rfl rfl rfl
theorem e_25_77 : g_Pg 25 77 = ga_lsh (fun x y => x <<< (y.toInt64 &&& 63)) 78 := (congrFun pg_25 77).trans rfl
theorem q_25_77 {L : List Value} {x : Int64} {y : Int32} {S : List Value} {Z : gZ} {I : gI} {J : gJ} : g_at 25 77 L (.int y :: .long x :: S) Z I J = g_at 25 78 L (.long (x <<< (y.toInt64 &&& 63)) :: S) Z I J := gq_lsh e_25_77
theorem e_25_78 : g_Pg 25 78 = ga_lbin (fun x y => x ||| y) 79 := (congrFun pg_25 78).trans rfl
theorem q_25_78 {L : List Value} {x y : Int64} {S : List Value} {Z : gZ} {I : gI} {J : gJ} : g_at 25 78 L (.long y :: .long x :: S) Z I J = g_at 25 79 L (.long (x ||| y) :: S) Z I J := gq_lbin e_25_78
theorem e_25_79 : g_Pg 25 79 = ga_last 80 := (congrFun pg_25 79).trans rfl
theorem q_25_79 {L : List Value} {a : Nat} {i : Int32} {v : Int64} {S : List Value} {Z : gZ} {I : gI} {J : gJ} (h : (gKd Z a).1 = 10) (h0 : 0 ≤ i) (h1 : i.toNatClampNeg < (gKd Z a).2) : g_at 25 79 L (.long v :: .int i :: .ref a :: S) Z I J = g_at 25 80 L S Z I (va_up J a (va_up (J a) i.toNatClampNeg v)) := gq_last e_25_79 h h0 h1
theorem e_25_80 : g_Pg 25 80 = ga_iload 3 81 := (congrFun pg_25 80).trans rfl
theorem q_25_80 {l0 l1 l2 l4 : Value} {x : Int32} {S : List Value} {Z : gZ} {I : gI} {J : gJ} : g_at 25 80 [l0, l1, l2, .int x, l4] S Z I J = g_at 25 81 [l0, l1, l2, .int x, l4] (.int x :: S) Z I J := gq_iload e_25_80 rfl
theorem e_25_81 : g_Pg 25 81 = ga_push (.int 1) 82 := (congrFun pg_25 81).trans rfl
theorem q_25_81 {L : List Value} {S : List Value} {Z : gZ} {I : gI} {J : gJ} : g_at 25 81 L S Z I J = g_at 25 82 L (.int 1 :: S) Z I J := gq_push e_25_81
theorem e_25_82 : g_Pg 25 82 = ga_iload 4 84 := (congrFun pg_25 82).trans rfl
theorem q_25_82 {l0 l1 l2 l3 : Value} {x : Int32} {S : List Value} {Z : gZ} {I : gI} {J : gJ} : g_at 25 82 [l0, l1, l2, l3, .int x] S Z I J = g_at 25 84 [l0, l1, l2, l3, .int x] (.int x :: S) Z I J := gq_iload e_25_82 rfl
theorem e_25_84 : g_Pg 25 84 = ga_bin (fun x y => x <<< (y &&& 31)) 85 := (congrFun pg_25 84).trans rfl
theorem q_25_84 {L : List Value} {x y : Int32} {S : List Value} {Z : gZ} {I : gI} {J : gJ} : g_at 25 84 L (.int y :: .int x :: S) Z I J = g_at 25 85 L (.int (x <<< (y &&& 31)) :: S) Z I J := gq_bin e_25_84
theorem e_25_85 : g_Pg 25 85 = ga_bin (fun x y => x ||| y) 86 := (congrFun pg_25 85).trans rfl
theorem q_25_85 {L : List Value} {x y : Int32} {S : List Value} {Z : gZ} {I : gI} {J : gJ} : g_at 25 85 L (.int y :: .int x :: S) Z I J = g_at 25 86 L (.int (x ||| y) :: S) Z I J := gq_bin e_25_85
theorem e_25_86 : g_Pg 25 86 = ga_istore 3 87 := (congrFun pg_25 86).trans rfl
theorem q_25_86 {l0 l1 l2 l3 l4 : Value} {x : Int32} {S : List Value} {Z : gZ} {I : gI} {J : gJ} (h : gN1 l2 = true) : g_at 25 86 [l0, l1, l2, l3, l4] (.int x :: S) Z I J = g_at 25 87 [l0, l1, l2, .int x, l4] S Z I J := gq_istore e_25_86 h rfl rfl
theorem e_25_87 : g_Pg 25 87 = ga_iinc 4 1 90 := (congrFun pg_25 87).trans rfl
theorem q_25_87 {l0 l1 l2 l3 : Value} {x : Int32} {S : List Value} {Z : gZ} {I : gI} {J : gJ} (h : gN1 l3 = true) : g_at 25 87 [l0, l1, l2, l3, .int x] S Z I J = g_at 25 90 [l0, l1, l2, l3, .int (x + 1)] S Z I J := gq_iinc e_25_87 rfl h rfl
theorem e_25_90 : g_Pg 25 90 = ga_goto 15 := (congrFun pg_25 90).trans rfl
theorem q_25_90 {L : List Value} {S : List Value} {Z : gZ} {I : gI} {J : gJ} : g_at 25 90 L S Z I J = g_at 25 15 L S Z I J := gq_goto e_25_90
theorem e_25_93 : g_Pg 25 93 = ga_iload 3 94 := (congrFun pg_25 93).trans rfl
theorem q_25_93 {l0 l1 l2 l4 : Value} {x : Int32} {S : List Value} {Z : gZ} {I : gI} {J : gJ} : g_at 25 93 [l0, l1, l2, .int x, l4] S Z I J = g_at 25 94 [l0, l1, l2, .int x, l4] (.int x :: S) Z I J := gq_iload e_25_93 rfl
theorem e_25_94 : g_Pg 25 94 = ga_iret := (congrFun pg_25 94).trans rfl
theorem q_25_94 {L : List Value} {x : Int32} {Z : gZ} {I : gI} {J : gJ} : g_at 25 94 L [.int x] Z I J = some (some (.int x), Z, I, J) := gq_iret e_25_94
theorem e_26_0 : g_Pg 26 0 = ga_aload 1 1 := (congrFun pg_26 0).trans rfl
theorem q_26_0 {l0 l2 : Value} {x : Nat} {S : List Value} {Z : gZ} {I : gI} {J : gJ} : g_at 26 0 [l0, .ref x, l2] S Z I J = g_at 26 1 [l0, .ref x, l2] (.ref x :: S) Z I J := gq_aload e_26_0 rfl
theorem e_26_1 : g_Pg 26 1 = ga_getR 0 2 4 := (congrFun pg_26 1).trans rfl
theorem q_26_1 {L : List Value} {a : Nat} {S : List Value} {Z : gZ} {I : gI} {J : gJ} (h : (gKd Z a).1 = 0) (h1 : gRs Z a 2 = true) : g_at 26 1 L (.ref a :: S) Z I J = g_at 26 4 L (.ref (gRq Z a 2) :: S) Z I J := gq_getR e_26_1 h h1
theorem e_26_4 : g_Pg 26 4 = ga_iload 2 5 := (congrFun pg_26 4).trans rfl
theorem q_26_4 {l0 l1 : Value} {x : Int32} {S : List Value} {Z : gZ} {I : gI} {J : gJ} : g_at 26 4 [l0, l1, .int x] S Z I J = g_at 26 5 [l0, l1, .int x] (.int x :: S) Z I J := gq_iload e_26_4 rfl
theorem e_26_5 : g_Pg 26 5 = ga_iald 6 := (congrFun pg_26 5).trans rfl
theorem q_26_5 {L : List Value} {a : Nat} {i : Int32} {S : List Value} {Z : gZ} {I : gI} {J : gJ} (h : gTg8 (gKd Z a).1 a = true) (h0 : 0 ≤ i) (h1 : i.toNatClampNeg < (gKd Z a).2) : g_at 26 5 L (.int i :: .ref a :: S) Z I J = g_at 26 6 L (.int (I a i.toNatClampNeg) :: S) Z I J := gq_iald e_26_5 h h0 h1
theorem e_26_6 : g_Pg 26 6 = ga_push (.int 3) 7 := (congrFun pg_26 6).trans rfl
theorem q_26_6 {L : List Value} {S : List Value} {Z : gZ} {I : gI} {J : gJ} : g_at 26 6 L S Z I J = g_at 26 7 L (.int 3 :: S) Z I J := gq_push e_26_6
theorem e_26_7 : g_Pg 26 7 = ga_cmp (fun x y => decide (x = y)) 12 10 := (congrFun pg_26 7).trans rfl
theorem q_26_7 {L : List Value} {x y : Int32} {S : List Value} {Z : gZ} {I : gI} {J : gJ} : g_at 26 7 L (.int y :: .int x :: S) Z I J = if x = y then g_at 26 12 L S Z I J else g_at 26 10 L S Z I J := gq_cmp e_26_7 rfl
theorem e_26_10 : g_Pg 26 10 = ga_push (.int 1) 11 := (congrFun pg_26 10).trans rfl
theorem q_26_10 {L : List Value} {S : List Value} {Z : gZ} {I : gI} {J : gJ} : g_at 26 10 L S Z I J = g_at 26 11 L (.int 1 :: S) Z I J := gq_push e_26_10
theorem e_26_11 : g_Pg 26 11 = ga_zret := (congrFun pg_26 11).trans rfl
theorem q_26_11 {L : List Value} {x : Int32} {Z : gZ} {I : gI} {J : gJ} (h : gB01 x = true) : g_at 26 11 L [.int x] Z I J = some (some (.int x), Z, I, J) := gq_zret e_26_11 h
theorem e_26_12 : g_Pg 26 12 = ga_aload 0 13 := (congrFun pg_26 12).trans rfl
theorem q_26_12 {l1 l2 : Value} {x : Nat} {S : List Value} {Z : gZ} {I : gI} {J : gJ} : g_at 26 12 [.ref x, l1, l2] S Z I J = g_at 26 13 [.ref x, l1, l2] (.ref x :: S) Z I J := gq_aload e_26_12 rfl
theorem e_26_13 : g_Pg 26 13 = ga_getR 2 2 16 := (congrFun pg_26 13).trans rfl
theorem q_26_13 {L : List Value} {a : Nat} {S : List Value} {Z : gZ} {I : gI} {J : gJ} (h : (gKd Z a).1 = 2) (h1 : gRs Z a 2 = true) : g_at 26 13 L (.ref a :: S) Z I J = g_at 26 16 L (.ref (gRq Z a 2) :: S) Z I J := gq_getR e_26_13 h h1
theorem e_26_16 : g_Pg 26 16 = ga_iload 2 17 := (congrFun pg_26 16).trans rfl
theorem q_26_16 {l0 l1 : Value} {x : Int32} {S : List Value} {Z : gZ} {I : gI} {J : gJ} : g_at 26 16 [l0, l1, .int x] S Z I J = g_at 26 17 [l0, l1, .int x] (.int x :: S) Z I J := gq_iload e_26_16 rfl
theorem e_26_17 : g_Pg 26 17 = ga_aload 0 18 := (congrFun pg_26 17).trans rfl
theorem q_26_17 {l1 l2 : Value} {x : Nat} {S : List Value} {Z : gZ} {I : gI} {J : gJ} : g_at 26 17 [.ref x, l1, l2] S Z I J = g_at 26 18 [.ref x, l1, l2] (.ref x :: S) Z I J := gq_aload e_26_17 rfl
theorem e_26_18 : g_Pg 26 18 = ga_getR 2 2 21 := (congrFun pg_26 18).trans rfl
theorem q_26_18 {L : List Value} {a : Nat} {S : List Value} {Z : gZ} {I : gI} {J : gJ} (h : (gKd Z a).1 = 2) (h1 : gRs Z a 2 = true) : g_at 26 18 L (.ref a :: S) Z I J = g_at 26 21 L (.ref (gRq Z a 2) :: S) Z I J := gq_getR e_26_18 h h1
theorem e_26_21 : g_Pg 26 21 = ga_iload 2 22 := (congrFun pg_26 21).trans rfl
theorem q_26_21 {l0 l1 : Value} {x : Int32} {S : List Value} {Z : gZ} {I : gI} {J : gJ} : g_at 26 21 [l0, l1, .int x] S Z I J = g_at 26 22 [l0, l1, .int x] (.int x :: S) Z I J := gq_iload e_26_21 rfl
theorem e_26_22 : g_Pg 26 22 = ga_bald 23 := (congrFun pg_26 22).trans rfl
theorem q_26_22 {L : List Value} {a : Nat} {i : Int32} {S : List Value} {Z : gZ} {I : gI} {J : gJ} (h : gTg9 (gKd Z a).1 a = true) (h0 : 0 ≤ i) (h1 : i.toNatClampNeg < (gKd Z a).2) : g_at 26 22 L (.int i :: .ref a :: S) Z I J = g_at 26 23 L (.int (I a i.toNatClampNeg) :: S) Z I J := gq_bald e_26_22 h h0 h1
theorem e_26_23 : g_Pg 26 23 = ga_if (fun x => decide (¬ x = 0)) 30 26 := (congrFun pg_26 23).trans rfl
theorem q_26_23 {L : List Value} {x : Int32} {S : List Value} {Z : gZ} {I : gI} {J : gJ} : g_at 26 23 L (.int x :: S) Z I J = if ¬ x = 0 then g_at 26 30 L S Z I J else g_at 26 26 L S Z I J := gq_if e_26_23 rfl
theorem e_26_26 : g_Pg 26 26 = ga_push (.int 1) 27 := (congrFun pg_26 26).trans rfl
theorem q_26_26 {L : List Value} {S : List Value} {Z : gZ} {I : gI} {J : gJ} : g_at 26 26 L S Z I J = g_at 26 27 L (.int 1 :: S) Z I J := gq_push e_26_26
theorem e_26_27 : g_Pg 26 27 = ga_goto 31 := (congrFun pg_26 27).trans rfl
theorem q_26_27 {L : List Value} {S : List Value} {Z : gZ} {I : gI} {J : gJ} : g_at 26 27 L S Z I J = g_at 26 31 L S Z I J := gq_goto e_26_27
theorem e_26_30 : g_Pg 26 30 = ga_push (.int 0) 31 := (congrFun pg_26 30).trans rfl
theorem q_26_30 {L : List Value} {S : List Value} {Z : gZ} {I : gI} {J : gJ} : g_at 26 30 L S Z I J = g_at 26 31 L (.int 0 :: S) Z I J := gq_push e_26_30
theorem e_26_31 : g_Pg 26 31 = ga_bast 32 := (congrFun pg_26 31).trans rfl
theorem q_26_31 {L : List Value} {a : Nat} {i : Int32} {v : Int32} {S : List Value} {Z : gZ} {I : gI} {J : gJ} (h : (gKd Z a).1 = 9) (h0 : 0 ≤ i) (h1 : i.toNatClampNeg < (gKd Z a).2) (h2 : gB01 v = true) : g_at 26 31 L (.int v :: .int i :: .ref a :: S) Z I J = g_at 26 32 L S Z (va_up I a (va_up (I a) i.toNatClampNeg v)) J := gq_bast e_26_31 h h0 h1 h2
theorem e_26_32 : g_Pg 26 32 = ga_aload 0 33 := (congrFun pg_26 32).trans rfl
theorem q_26_32 {l1 l2 : Value} {x : Nat} {S : List Value} {Z : gZ} {I : gI} {J : gJ} : g_at 26 32 [.ref x, l1, l2] S Z I J = g_at 26 33 [.ref x, l1, l2] (.ref x :: S) Z I J := gq_aload e_26_32 rfl
theorem e_26_33 : g_Pg 26 33 = ga_getR 2 2 36 := (congrFun pg_26 33).trans rfl
theorem q_26_33 {L : List Value} {a : Nat} {S : List Value} {Z : gZ} {I : gI} {J : gJ} (h : (gKd Z a).1 = 2) (h1 : gRs Z a 2 = true) : g_at 26 33 L (.ref a :: S) Z I J = g_at 26 36 L (.ref (gRq Z a 2) :: S) Z I J := gq_getR e_26_33 h h1
theorem e_26_36 : g_Pg 26 36 = ga_iload 2 37 := (congrFun pg_26 36).trans rfl
theorem q_26_36 {l0 l1 : Value} {x : Int32} {S : List Value} {Z : gZ} {I : gI} {J : gJ} : g_at 26 36 [l0, l1, .int x] S Z I J = g_at 26 37 [l0, l1, .int x] (.int x :: S) Z I J := gq_iload e_26_36 rfl
theorem e_26_37 : g_Pg 26 37 = ga_bald 38 := (congrFun pg_26 37).trans rfl
theorem q_26_37 {L : List Value} {a : Nat} {i : Int32} {S : List Value} {Z : gZ} {I : gI} {J : gJ} (h : gTg9 (gKd Z a).1 a = true) (h0 : 0 ≤ i) (h1 : i.toNatClampNeg < (gKd Z a).2) : g_at 26 37 L (.int i :: .ref a :: S) Z I J = g_at 26 38 L (.int (I a i.toNatClampNeg) :: S) Z I J := gq_bald e_26_37 h h0 h1
theorem e_26_38 : g_Pg 26 38 = ga_if (fun x => decide (¬ x = 0)) 45 41 := (congrFun pg_26 38).trans rfl
theorem q_26_38 {L : List Value} {x : Int32} {S : List Value} {Z : gZ} {I : gI} {J : gJ} : g_at 26 38 L (.int x :: S) Z I J = if ¬ x = 0 then g_at 26 45 L S Z I J else g_at 26 41 L S Z I J := gq_if e_26_38 rfl
theorem e_26_41 : g_Pg 26 41 = ga_push (.int 1) 42 := (congrFun pg_26 41).trans rfl
theorem q_26_41 {L : List Value} {S : List Value} {Z : gZ} {I : gI} {J : gJ} : g_at 26 41 L S Z I J = g_at 26 42 L (.int 1 :: S) Z I J := gq_push e_26_41
theorem e_26_42 : g_Pg 26 42 = ga_goto 46 := (congrFun pg_26 42).trans rfl
theorem q_26_42 {L : List Value} {S : List Value} {Z : gZ} {I : gI} {J : gJ} : g_at 26 42 L S Z I J = g_at 26 46 L S Z I J := gq_goto e_26_42
theorem e_26_45 : g_Pg 26 45 = ga_push (.int 0) 46 := (congrFun pg_26 45).trans rfl
theorem q_26_45 {L : List Value} {S : List Value} {Z : gZ} {I : gI} {J : gJ} : g_at 26 45 L S Z I J = g_at 26 46 L (.int 0 :: S) Z I J := gq_push e_26_45
theorem e_26_46 : g_Pg 26 46 = ga_zret := (congrFun pg_26 46).trans rfl
theorem q_26_46 {L : List Value} {x : Int32} {Z : gZ} {I : gI} {J : gJ} (h : gB01 x = true) : g_at 26 46 L [.int x] Z I J = some (some (.int x), Z, I, J) := gq_zret e_26_46 h
theorem e_27_0 : g_Pg 27 0 = ga_aload 0 1 := (congrFun pg_27 0).trans rfl
theorem q_27_0 {l1 l2 l3 : Value} {x : Nat} {S : List Value} {Z : gZ} {I : gI} {J : gJ} : g_at 27 0 [.ref x, l1, l2, l3] S Z I J = g_at 27 1 [.ref x, l1, l2, l3] (.ref x :: S) Z I J := gq_aload e_27_0 rfl
theorem e_27_1 : g_Pg 27 1 = ga_dup 2 := (congrFun pg_27 1).trans rfl
theorem q_27_1 {L : List Value} {x : Nat} {S : List Value} {Z : gZ} {I : gI} {J : gJ} : g_at 27 1 L (.ref x :: S) Z I J = g_at 27 2 L (.ref x :: .ref x :: S) Z I J := gq_dup e_27_1
theorem e_27_2 : g_Pg 27 2 = ga_getI 2 3 5 := (congrFun pg_27 2).trans rfl
theorem q_27_2 {L : List Value} {a : Nat} {S : List Value} {Z : gZ} {I : gI} {J : gJ} (h : (gKd Z a).1 = 2) : g_at 27 2 L (.ref a :: S) Z I J = g_at 27 5 L (.int (I a 3) :: S) Z I J := gq_getI e_27_2 h
theorem e_27_5 : g_Pg 27 5 = ga_push (.int 1) 6 := (congrFun pg_27 5).trans rfl
theorem q_27_5 {L : List Value} {S : List Value} {Z : gZ} {I : gI} {J : gJ} : g_at 27 5 L S Z I J = g_at 27 6 L (.int 1 :: S) Z I J := gq_push e_27_5
theorem e_27_6 : g_Pg 27 6 = ga_bin (fun x y => x + y) 7 := (congrFun pg_27 6).trans rfl
theorem q_27_6 {L : List Value} {x y : Int32} {S : List Value} {Z : gZ} {I : gI} {J : gJ} : g_at 27 6 L (.int y :: .int x :: S) Z I J = g_at 27 7 L (.int (x + y) :: S) Z I J := gq_bin e_27_6
theorem e_27_7 : g_Pg 27 7 = ga_putI 2 3 10 := (congrFun pg_27 7).trans rfl
theorem q_27_7 {L : List Value} {a : Nat} {v : Int32} {S : List Value} {Z : gZ} {I : gI} {J : gJ} (h : (gKd Z a).1 = 2) : g_at 27 7 L (.int v :: .ref a :: S) Z I J = g_at 27 10 L S Z (va_up I a (va_up (I a) 3 v)) J := gq_putI e_27_7 h
theorem e_27_10 : g_Pg 27 10 = ga_push (.int 0) 11 := (congrFun pg_27 10).trans rfl
theorem q_27_10 {L : List Value} {S : List Value} {Z : gZ} {I : gI} {J : gJ} : g_at 27 10 L S Z I J = g_at 27 11 L (.int 0 :: S) Z I J := gq_push e_27_10
theorem e_27_11 : g_Pg 27 11 = ga_istore 2 12 := (congrFun pg_27 11).trans rfl
theorem q_27_11 {l0 l1 l2 l3 : Value} {x : Int32} {S : List Value} {Z : gZ} {I : gI} {J : gJ} (h : gN1 l1 = true) : g_at 27 11 [l0, l1, l2, l3] (.int x :: S) Z I J = g_at 27 12 [l0, l1, .int x, l3] S Z I J := gq_istore e_27_11 h rfl rfl
theorem e_27_12 : g_Pg 27 12 = ga_push (.int 0) 13 := (congrFun pg_27 12).trans rfl
theorem q_27_12 {L : List Value} {S : List Value} {Z : gZ} {I : gI} {J : gJ} : g_at 27 12 L S Z I J = g_at 27 13 L (.int 0 :: S) Z I J := gq_push e_27_12
theorem e_27_13 : g_Pg 27 13 = ga_istore 3 14 := (congrFun pg_27 13).trans rfl
theorem q_27_13 {l0 l1 l2 l3 : Value} {x : Int32} {S : List Value} {Z : gZ} {I : gI} {J : gJ} (h : gN1 l2 = true) : g_at 27 13 [l0, l1, l2, l3] (.int x :: S) Z I J = g_at 27 14 [l0, l1, l2, .int x] S Z I J := gq_istore e_27_13 h rfl rfl
theorem e_27_14 : g_Pg 27 14 = ga_iload 3 15 := (congrFun pg_27 14).trans rfl
theorem q_27_14 {l0 l1 l2 : Value} {x : Int32} {S : List Value} {Z : gZ} {I : gI} {J : gJ} : g_at 27 14 [l0, l1, l2, .int x] S Z I J = g_at 27 15 [l0, l1, l2, .int x] (.int x :: S) Z I J := gq_iload e_27_14 rfl
theorem e_27_15 : g_Pg 27 15 = ga_aload 1 16 := (congrFun pg_27 15).trans rfl
theorem q_27_15 {l0 l2 l3 : Value} {x : Nat} {S : List Value} {Z : gZ} {I : gI} {J : gJ} : g_at 27 15 [l0, .ref x, l2, l3] S Z I J = g_at 27 16 [l0, .ref x, l2, l3] (.ref x :: S) Z I J := gq_aload e_27_15 rfl
theorem e_27_16 : g_Pg 27 16 = ga_getI 0 4 19 := (congrFun pg_27 16).trans rfl
theorem q_27_16 {L : List Value} {a : Nat} {S : List Value} {Z : gZ} {I : gI} {J : gJ} (h : (gKd Z a).1 = 0) : g_at 27 16 L (.ref a :: S) Z I J = g_at 27 19 L (.int (I a 4) :: S) Z I J := gq_getI e_27_16 h
theorem e_27_19 : g_Pg 27 19 = ga_cmp (fun x y => decide (y ≤ x)) 67 22 := (congrFun pg_27 19).trans rfl
theorem q_27_19 {L : List Value} {x y : Int32} {S : List Value} {Z : gZ} {I : gI} {J : gJ} : g_at 27 19 L (.int y :: .int x :: S) Z I J = if y ≤ x then g_at 27 67 L S Z I J else g_at 27 22 L S Z I J := gq_cmp e_27_19 rfl
theorem e_27_22 : g_Pg 27 22 = ga_aload 0 23 := (congrFun pg_27 22).trans rfl
theorem q_27_22 {l1 l2 l3 : Value} {x : Nat} {S : List Value} {Z : gZ} {I : gI} {J : gJ} : g_at 27 22 [.ref x, l1, l2, l3] S Z I J = g_at 27 23 [.ref x, l1, l2, l3] (.ref x :: S) Z I J := gq_aload e_27_22 rfl
theorem e_27_23 : g_Pg 27 23 = ga_getR 2 0 26 := (congrFun pg_27 23).trans rfl
theorem q_27_23 {L : List Value} {a : Nat} {S : List Value} {Z : gZ} {I : gI} {J : gJ} (h : (gKd Z a).1 = 2) (h1 : gRs Z a 0 = true) : g_at 27 23 L (.ref a :: S) Z I J = g_at 27 26 L (.ref (gRq Z a 0) :: S) Z I J := gq_getR e_27_23 h h1
theorem e_27_26 : g_Pg 27 26 = ga_iload 3 27 := (congrFun pg_27 26).trans rfl
theorem q_27_26 {l0 l1 l2 : Value} {x : Int32} {S : List Value} {Z : gZ} {I : gI} {J : gJ} : g_at 27 26 [l0, l1, l2, .int x] S Z I J = g_at 27 27 [l0, l1, l2, .int x] (.int x :: S) Z I J := gq_iload e_27_26 rfl
theorem e_27_27 : g_Pg 27 27 = ga_dup2 28 := (congrFun pg_27 27).trans rfl
theorem q_27_27 {L : List Value} {x : Nat} {y : Int32} {S : List Value} {Z : gZ} {I : gI} {J : gJ} : g_at 27 27 L (.int y :: .ref x :: S) Z I J = g_at 27 28 L (.int y :: .ref x :: .int y :: .ref x :: S) Z I J := gq_dup2 e_27_27
theorem e_27_28 : g_Pg 27 28 = ga_lald 29 := (congrFun pg_27 28).trans rfl
theorem q_27_28 {L : List Value} {a : Nat} {i : Int32} {S : List Value} {Z : gZ} {I : gI} {J : gJ} (h : (gKd Z a).1 = 10) (h0 : 0 ≤ i) (h1 : i.toNatClampNeg < (gKd Z a).2) : g_at 27 28 L (.int i :: .ref a :: S) Z I J = g_at 27 29 L (.long (J a i.toNatClampNeg) :: S) Z I J := gq_lald e_27_28 h h0 h1
theorem e_27_29 : g_Pg 27 29 = ga_push (.int 1) 30 := (congrFun pg_27 29).trans rfl
theorem q_27_29 {L : List Value} {S : List Value} {Z : gZ} {I : gI} {J : gJ} : g_at 27 29 L S Z I J = g_at 27 30 L (.int 1 :: S) Z I J := gq_push e_27_29
theorem e_27_30 : g_Pg 27 30 = ga_lsh (fun x y => x >>> (y.toInt64 &&& 63)) 31 := (congrFun pg_27 30).trans rfl
theorem q_27_30 {L : List Value} {x : Int64} {y : Int32} {S : List Value} {Z : gZ} {I : gI} {J : gJ} : g_at 27 30 L (.int y :: .long x :: S) Z I J = g_at 27 31 L (.long (x >>> (y.toInt64 &&& 63)) :: S) Z I J := gq_lsh e_27_30
theorem e_27_31 : g_Pg 27 31 = ga_last 32 := (congrFun pg_27 31).trans rfl
theorem q_27_31 {L : List Value} {a : Nat} {i : Int32} {v : Int64} {S : List Value} {Z : gZ} {I : gI} {J : gJ} (h : (gKd Z a).1 = 10) (h0 : 0 ≤ i) (h1 : i.toNatClampNeg < (gKd Z a).2) : g_at 27 31 L (.long v :: .int i :: .ref a :: S) Z I J = g_at 27 32 L S Z I (va_up J a (va_up (J a) i.toNatClampNeg v)) := gq_last e_27_31 h h0 h1
theorem e_27_32 : g_Pg 27 32 = ga_aload 0 33 := (congrFun pg_27 32).trans rfl
theorem q_27_32 {l1 l2 l3 : Value} {x : Nat} {S : List Value} {Z : gZ} {I : gI} {J : gJ} : g_at 27 32 [.ref x, l1, l2, l3] S Z I J = g_at 27 33 [.ref x, l1, l2, l3] (.ref x :: S) Z I J := gq_aload e_27_32 rfl
theorem e_27_33 : g_Pg 27 33 = ga_getR 2 0 36 := (congrFun pg_27 33).trans rfl
theorem q_27_33 {L : List Value} {a : Nat} {S : List Value} {Z : gZ} {I : gI} {J : gJ} (h : (gKd Z a).1 = 2) (h1 : gRs Z a 0 = true) : g_at 27 33 L (.ref a :: S) Z I J = g_at 27 36 L (.ref (gRq Z a 0) :: S) Z I J := gq_getR e_27_33 h h1
theorem e_27_36 : g_Pg 27 36 = ga_iload 3 37 := (congrFun pg_27 36).trans rfl
theorem q_27_36 {l0 l1 l2 : Value} {x : Int32} {S : List Value} {Z : gZ} {I : gI} {J : gJ} : g_at 27 36 [l0, l1, l2, .int x] S Z I J = g_at 27 37 [l0, l1, l2, .int x] (.int x :: S) Z I J := gq_iload e_27_36 rfl
theorem e_27_37 : g_Pg 27 37 = ga_lald 38 := (congrFun pg_27 37).trans rfl
theorem q_27_37 {L : List Value} {a : Nat} {i : Int32} {S : List Value} {Z : gZ} {I : gI} {J : gJ} (h : (gKd Z a).1 = 10) (h0 : 0 ≤ i) (h1 : i.toNatClampNeg < (gKd Z a).2) : g_at 27 37 L (.int i :: .ref a :: S) Z I J = g_at 27 38 L (.long (J a i.toNatClampNeg) :: S) Z I J := gq_lald e_27_37 h h0 h1
theorem e_27_38 : g_Pg 27 38 = ga_push (.long 1) 39 := (congrFun pg_27 38).trans rfl
theorem q_27_38 {L : List Value} {S : List Value} {Z : gZ} {I : gI} {J : gJ} : g_at 27 38 L S Z I J = g_at 27 39 L (.long 1 :: S) Z I J := gq_push e_27_38
theorem e_27_39 : g_Pg 27 39 = ga_lbin (fun x y => x &&& y) 40 := (congrFun pg_27 39).trans rfl
theorem q_27_39 {L : List Value} {x y : Int64} {S : List Value} {Z : gZ} {I : gI} {J : gJ} : g_at 27 39 L (.long y :: .long x :: S) Z I J = g_at 27 40 L (.long (x &&& y) :: S) Z I J := gq_lbin e_27_39
theorem e_27_40 : g_Pg 27 40 = ga_push (.long 0) 41 := (congrFun pg_27 40).trans rfl
theorem q_27_40 {L : List Value} {S : List Value} {Z : gZ} {I : gI} {J : gJ} : g_at 27 40 L S Z I J = g_at 27 41 L (.long 0 :: S) Z I J := gq_push e_27_40
theorem e_27_41 : g_Pg 27 41 = ga_lcmp 42 := (congrFun pg_27 41).trans rfl
theorem q_27_41 {L : List Value} {x y : Int64} {S : List Value} {Z : gZ} {I : gI} {J : gJ} : g_at 27 41 L (.long y :: .long x :: S) Z I J = g_at 27 42 L (.int (lg_cmp x y) :: S) Z I J := gq_lcmp e_27_41
theorem e_27_42 : g_Pg 27 42 = ga_if (fun x => decide (x = 0)) 61 45 := (congrFun pg_27 42).trans rfl
theorem q_27_42 {L : List Value} {x : Int32} {S : List Value} {Z : gZ} {I : gI} {J : gJ} : g_at 27 42 L (.int x :: S) Z I J = if x = 0 then g_at 27 61 L S Z I J else g_at 27 45 L S Z I J := gq_if e_27_42 rfl
theorem e_27_45 : g_Pg 27 45 = ga_aload 0 46 := (congrFun pg_27 45).trans rfl
theorem q_27_45 {l1 l2 l3 : Value} {x : Nat} {S : List Value} {Z : gZ} {I : gI} {J : gJ} : g_at 27 45 [.ref x, l1, l2, l3] S Z I J = g_at 27 46 [.ref x, l1, l2, l3] (.ref x :: S) Z I J := gq_aload e_27_45 rfl
theorem e_27_46 : g_Pg 27 46 = ga_getR 2 0 49 := (congrFun pg_27 46).trans rfl
theorem q_27_46 {L : List Value} {a : Nat} {S : List Value} {Z : gZ} {I : gI} {J : gJ} (h : (gKd Z a).1 = 2) (h1 : gRs Z a 0 = true) : g_at 27 46 L (.ref a :: S) Z I J = g_at 27 49 L (.ref (gRq Z a 0) :: S) Z I J := gq_getR e_27_46 h h1
theorem e_27_49 : g_Pg 27 49 = ga_iload 3 50 := (congrFun pg_27 49).trans rfl
theorem q_27_49 {l0 l1 l2 : Value} {x : Int32} {S : List Value} {Z : gZ} {I : gI} {J : gJ} : g_at 27 49 [l0, l1, l2, .int x] S Z I J = g_at 27 50 [l0, l1, l2, .int x] (.int x :: S) Z I J := gq_iload e_27_49 rfl
theorem e_27_50 : g_Pg 27 50 = ga_dup2 51 := (congrFun pg_27 50).trans rfl
theorem q_27_50 {L : List Value} {x : Nat} {y : Int32} {S : List Value} {Z : gZ} {I : gI} {J : gJ} : g_at 27 50 L (.int y :: .ref x :: S) Z I J = g_at 27 51 L (.int y :: .ref x :: .int y :: .ref x :: S) Z I J := gq_dup2 e_27_50
theorem e_27_51 : g_Pg 27 51 = ga_lald 52 := (congrFun pg_27 51).trans rfl
theorem q_27_51 {L : List Value} {a : Nat} {i : Int32} {S : List Value} {Z : gZ} {I : gI} {J : gJ} (h : (gKd Z a).1 = 10) (h0 : 0 ≤ i) (h1 : i.toNatClampNeg < (gKd Z a).2) : g_at 27 51 L (.int i :: .ref a :: S) Z I J = g_at 27 52 L (.long (J a i.toNatClampNeg) :: S) Z I J := gq_lald e_27_51 h h0 h1
theorem e_27_52 : g_Pg 27 52 = ga_push (.long 1) 53 := (congrFun pg_27 52).trans rfl
theorem q_27_52 {L : List Value} {S : List Value} {Z : gZ} {I : gI} {J : gJ} : g_at 27 52 L S Z I J = g_at 27 53 L (.long 1 :: S) Z I J := gq_push e_27_52
theorem e_27_53 : g_Pg 27 53 = ga_lbin (fun x y => x ^^^ y) 54 := (congrFun pg_27 53).trans rfl
theorem q_27_53 {L : List Value} {x y : Int64} {S : List Value} {Z : gZ} {I : gI} {J : gJ} : g_at 27 53 L (.long y :: .long x :: S) Z I J = g_at 27 54 L (.long (x ^^^ y) :: S) Z I J := gq_lbin e_27_53
theorem e_27_54 : g_Pg 27 54 = ga_last 55 := (congrFun pg_27 54).trans rfl
theorem q_27_54 {L : List Value} {a : Nat} {i : Int32} {v : Int64} {S : List Value} {Z : gZ} {I : gI} {J : gJ} (h : (gKd Z a).1 = 10) (h0 : 0 ≤ i) (h1 : i.toNatClampNeg < (gKd Z a).2) : g_at 27 54 L (.long v :: .int i :: .ref a :: S) Z I J = g_at 27 55 L S Z I (va_up J a (va_up (J a) i.toNatClampNeg v)) := gq_last e_27_54 h h0 h1
theorem e_27_55 : g_Pg 27 55 = ga_iload 2 56 := (congrFun pg_27 55).trans rfl
theorem q_27_55 {l0 l1 l3 : Value} {x : Int32} {S : List Value} {Z : gZ} {I : gI} {J : gJ} : g_at 27 55 [l0, l1, .int x, l3] S Z I J = g_at 27 56 [l0, l1, .int x, l3] (.int x :: S) Z I J := gq_iload e_27_55 rfl
theorem e_27_56 : g_Pg 27 56 = ga_push (.int 1) 57 := (congrFun pg_27 56).trans rfl
theorem q_27_56 {L : List Value} {S : List Value} {Z : gZ} {I : gI} {J : gJ} : g_at 27 56 L S Z I J = g_at 27 57 L (.int 1 :: S) Z I J := gq_push e_27_56
theorem e_27_57 : g_Pg 27 57 = ga_iload 3 58 := (congrFun pg_27 57).trans rfl
theorem q_27_57 {l0 l1 l2 : Value} {x : Int32} {S : List Value} {Z : gZ} {I : gI} {J : gJ} : g_at 27 57 [l0, l1, l2, .int x] S Z I J = g_at 27 58 [l0, l1, l2, .int x] (.int x :: S) Z I J := gq_iload e_27_57 rfl
theorem e_27_58 : g_Pg 27 58 = ga_bin (fun x y => x <<< (y &&& 31)) 59 := (congrFun pg_27 58).trans rfl
theorem q_27_58 {L : List Value} {x y : Int32} {S : List Value} {Z : gZ} {I : gI} {J : gJ} : g_at 27 58 L (.int y :: .int x :: S) Z I J = g_at 27 59 L (.int (x <<< (y &&& 31)) :: S) Z I J := gq_bin e_27_58
theorem e_27_59 : g_Pg 27 59 = ga_bin (fun x y => x ||| y) 60 := (congrFun pg_27 59).trans rfl
theorem q_27_59 {L : List Value} {x y : Int32} {S : List Value} {Z : gZ} {I : gI} {J : gJ} : g_at 27 59 L (.int y :: .int x :: S) Z I J = g_at 27 60 L (.int (x ||| y) :: S) Z I J := gq_bin e_27_59
theorem e_27_60 : g_Pg 27 60 = ga_istore 2 61 := (congrFun pg_27 60).trans rfl
theorem q_27_60 {l0 l1 l2 l3 : Value} {x : Int32} {S : List Value} {Z : gZ} {I : gI} {J : gJ} (h : gN1 l1 = true) : g_at 27 60 [l0, l1, l2, l3] (.int x :: S) Z I J = g_at 27 61 [l0, l1, .int x, l3] S Z I J := gq_istore e_27_60 h rfl rfl
theorem e_27_61 : g_Pg 27 61 = ga_iinc 3 1 64 := (congrFun pg_27 61).trans rfl
theorem q_27_61 {l0 l1 l2 : Value} {x : Int32} {S : List Value} {Z : gZ} {I : gI} {J : gJ} (h : gN1 l2 = true) : g_at 27 61 [l0, l1, l2, .int x] S Z I J = g_at 27 64 [l0, l1, l2, .int (x + 1)] S Z I J := gq_iinc e_27_61 rfl h rfl
theorem e_27_64 : g_Pg 27 64 = ga_goto 14 := (congrFun pg_27 64).trans rfl
theorem q_27_64 {L : List Value} {S : List Value} {Z : gZ} {I : gI} {J : gJ} : g_at 27 64 L S Z I J = g_at 27 14 L S Z I J := gq_goto e_27_64
theorem e_27_67 : g_Pg 27 67 = ga_push (.int 0) 68 := (congrFun pg_27 67).trans rfl
theorem q_27_67 {L : List Value} {S : List Value} {Z : gZ} {I : gI} {J : gJ} : g_at 27 67 L S Z I J = g_at 27 68 L (.int 0 :: S) Z I J := gq_push e_27_67
theorem e_27_68 : g_Pg 27 68 = ga_istore 3 69 := (congrFun pg_27 68).trans rfl
theorem q_27_68 {l0 l1 l2 l3 : Value} {x : Int32} {S : List Value} {Z : gZ} {I : gI} {J : gJ} (h : gN1 l2 = true) : g_at 27 68 [l0, l1, l2, l3] (.int x :: S) Z I J = g_at 27 69 [l0, l1, l2, .int x] S Z I J := gq_istore e_27_68 h rfl rfl
theorem e_27_69 : g_Pg 27 69 = ga_iload 3 70 := (congrFun pg_27 69).trans rfl
theorem q_27_69 {l0 l1 l2 : Value} {x : Int32} {S : List Value} {Z : gZ} {I : gI} {J : gJ} : g_at 27 69 [l0, l1, l2, .int x] S Z I J = g_at 27 70 [l0, l1, l2, .int x] (.int x :: S) Z I J := gq_iload e_27_69 rfl
theorem e_27_70 : g_Pg 27 70 = ga_aload 1 71 := (congrFun pg_27 70).trans rfl
theorem q_27_70 {l0 l2 l3 : Value} {x : Nat} {S : List Value} {Z : gZ} {I : gI} {J : gJ} : g_at 27 70 [l0, .ref x, l2, l3] S Z I J = g_at 27 71 [l0, .ref x, l2, l3] (.ref x :: S) Z I J := gq_aload e_27_70 rfl
theorem e_27_71 : g_Pg 27 71 = ga_getI 0 4 74 := (congrFun pg_27 71).trans rfl
theorem q_27_71 {L : List Value} {a : Nat} {S : List Value} {Z : gZ} {I : gI} {J : gJ} (h : (gKd Z a).1 = 0) : g_at 27 71 L (.ref a :: S) Z I J = g_at 27 74 L (.int (I a 4) :: S) Z I J := gq_getI e_27_71 h
theorem e_27_74 : g_Pg 27 74 = ga_cmp (fun x y => decide (y ≤ x)) 98 77 := (congrFun pg_27 74).trans rfl
theorem q_27_74 {L : List Value} {x y : Int32} {S : List Value} {Z : gZ} {I : gI} {J : gJ} : g_at 27 74 L (.int y :: .int x :: S) Z I J = if y ≤ x then g_at 27 98 L S Z I J else g_at 27 77 L S Z I J := gq_cmp e_27_74 rfl
theorem e_27_77 : g_Pg 27 77 = ga_iload 2 78 := (congrFun pg_27 77).trans rfl
theorem q_27_77 {l0 l1 l3 : Value} {x : Int32} {S : List Value} {Z : gZ} {I : gI} {J : gJ} : g_at 27 77 [l0, l1, .int x, l3] S Z I J = g_at 27 78 [l0, l1, .int x, l3] (.int x :: S) Z I J := gq_iload e_27_77 rfl
theorem e_27_78 : g_Pg 27 78 = ga_iload 3 79 := (congrFun pg_27 78).trans rfl
theorem q_27_78 {l0 l1 l2 : Value} {x : Int32} {S : List Value} {Z : gZ} {I : gI} {J : gJ} : g_at 27 78 [l0, l1, l2, .int x] S Z I J = g_at 27 79 [l0, l1, l2, .int x] (.int x :: S) Z I J := gq_iload e_27_78 rfl
theorem e_27_79 : g_Pg 27 79 = ga_bin (fun x y => x >>> (y &&& 31)) 80 := (congrFun pg_27 79).trans rfl
theorem q_27_79 {L : List Value} {x y : Int32} {S : List Value} {Z : gZ} {I : gI} {J : gJ} : g_at 27 79 L (.int y :: .int x :: S) Z I J = g_at 27 80 L (.int (x >>> (y &&& 31)) :: S) Z I J := gq_bin e_27_79
theorem e_27_80 : g_Pg 27 80 = ga_push (.int 1) 81 := (congrFun pg_27 80).trans rfl
theorem q_27_80 {L : List Value} {S : List Value} {Z : gZ} {I : gI} {J : gJ} : g_at 27 80 L S Z I J = g_at 27 81 L (.int 1 :: S) Z I J := gq_push e_27_80
theorem e_27_81 : g_Pg 27 81 = ga_bin (fun x y => x &&& y) 82 := (congrFun pg_27 81).trans rfl
theorem q_27_81 {L : List Value} {x y : Int32} {S : List Value} {Z : gZ} {I : gI} {J : gJ} : g_at 27 81 L (.int y :: .int x :: S) Z I J = g_at 27 82 L (.int (x &&& y) :: S) Z I J := gq_bin e_27_81
theorem e_27_82 : g_Pg 27 82 = ga_if (fun x => decide (x = 0)) 92 85 := (congrFun pg_27 82).trans rfl
theorem q_27_82 {L : List Value} {x : Int32} {S : List Value} {Z : gZ} {I : gI} {J : gJ} : g_at 27 82 L (.int x :: S) Z I J = if x = 0 then g_at 27 92 L S Z I J else g_at 27 85 L S Z I J := gq_if e_27_82 rfl
theorem e_27_85 : g_Pg 27 85 = ga_aload 0 86 := (congrFun pg_27 85).trans rfl
theorem q_27_85 {l1 l2 l3 : Value} {x : Nat} {S : List Value} {Z : gZ} {I : gI} {J : gJ} : g_at 27 85 [.ref x, l1, l2, l3] S Z I J = g_at 27 86 [.ref x, l1, l2, l3] (.ref x :: S) Z I J := gq_aload e_27_85 rfl
theorem e_27_86 : g_Pg 27 86 = ga_aload 1 87 := (congrFun pg_27 86).trans rfl
theorem q_27_86 {l0 l2 l3 : Value} {x : Nat} {S : List Value} {Z : gZ} {I : gI} {J : gJ} : g_at 27 86 [l0, .ref x, l2, l3] S Z I J = g_at 27 87 [l0, .ref x, l2, l3] (.ref x :: S) Z I J := gq_aload e_27_86 rfl
theorem e_27_87 : g_Pg 27 87 = ga_iload 3 88 := (congrFun pg_27 87).trans rfl
theorem q_27_87 {l0 l1 l2 : Value} {x : Int32} {S : List Value} {Z : gZ} {I : gI} {J : gJ} : g_at 27 87 [l0, l1, l2, .int x] S Z I J = g_at 27 88 [l0, l1, l2, .int x] (.int x :: S) Z I J := gq_iload e_27_87 rfl
theorem e_27_88 : g_Pg 27 88 = ga_callV 2 25 2 91 := (congrFun pg_27 88).trans rfl
theorem q_27_88 {L : List Value} {a0 : Int32} {a1 : Nat} {a2 : Nat} {Z : gZ} {I : gI} {J : gJ} (h : (gKd Z a2).1 = 2) : g_at 27 88 L [.int a0, .ref a1, .ref a2] Z I J = (g_at 25 0 [.ref a2, .ref a1, .int a0, .null, .null] [] Z I J).bind (fun r => g_at 27 91 L (r.1.toList ++ []) r.2.1 r.2.2.1 r.2.2.2) := gq_callV e_27_88 rfl rfl h rfl rfl rfl rfl rfl
theorem e_27_91 : g_Pg 27 91 = ga_pop 92 := (congrFun pg_27 91).trans rfl
theorem q_27_91 {L : List Value} {x : Int32} {S : List Value} {Z : gZ} {I : gI} {J : gJ} : g_at 27 91 L (.int x :: S) Z I J = g_at 27 92 L S Z I J := gq_pop e_27_91
theorem e_27_92 : g_Pg 27 92 = ga_iinc 3 1 95 := (congrFun pg_27 92).trans rfl
theorem q_27_92 {l0 l1 l2 : Value} {x : Int32} {S : List Value} {Z : gZ} {I : gI} {J : gJ} (h : gN1 l2 = true) : g_at 27 92 [l0, l1, l2, .int x] S Z I J = g_at 27 95 [l0, l1, l2, .int (x + 1)] S Z I J := gq_iinc e_27_92 rfl h rfl
theorem e_27_95 : g_Pg 27 95 = ga_goto 69 := (congrFun pg_27 95).trans rfl
theorem q_27_95 {L : List Value} {S : List Value} {Z : gZ} {I : gI} {J : gJ} : g_at 27 95 L S Z I J = g_at 27 69 L S Z I J := gq_goto e_27_95
theorem e_27_98 : g_Pg 27 98 = ga_iload 2 99 := (congrFun pg_27 98).trans rfl
theorem q_27_98 {l0 l1 l3 : Value} {x : Int32} {S : List Value} {Z : gZ} {I : gI} {J : gJ} : g_at 27 98 [l0, l1, .int x, l3] S Z I J = g_at 27 99 [l0, l1, .int x, l3] (.int x :: S) Z I J := gq_iload e_27_98 rfl
theorem e_27_99 : g_Pg 27 99 = ga_call 133 1 102 := (congrFun pg_27 99).trans rfl
theorem q_27_99 {L : List Value} {a0 : Int32} {Z : gZ} {I : gI} {J : gJ} : g_at 27 99 L [.int a0] Z I J = (g_at 133 0 [.int a0] [] Z I J).bind (fun r => g_at 27 102 L (r.1.toList ++ []) r.2.1 r.2.2.1 r.2.2.2) := gq_call e_27_99 rfl rfl rfl rfl rfl
theorem e_27_102 : g_Pg 27 102 = ga_iret := (congrFun pg_27 102).trans rfl
theorem q_27_102 {L : List Value} {x : Int32} {Z : gZ} {I : gI} {J : gJ} : g_at 27 102 L [.int x] Z I J = some (some (.int x), Z, I, J) := gq_iret e_27_102
theorem e_28_0 : g_Pg 28 0 = ga_push (.int 1) 1 := (congrFun pg_28 0).trans rfl
theorem q_28_0 {L : List Value} {S : List Value} {Z : gZ} {I : gI} {J : gJ} : g_at 28 0 L S Z I J = g_at 28 1 L (.int 1 :: S) Z I J := gq_push e_28_0
theorem e_28_1 : g_Pg 28 1 = ga_istore 2 2 := (congrFun pg_28 1).trans rfl
theorem q_28_1 {l0 l1 l2 : Value} {x : Int32} {S : List Value} {Z : gZ} {I : gI} {J : gJ} (h : gN1 l1 = true) : g_at 28 1 [l0, l1, l2] (.int x :: S) Z I J = g_at 28 2 [l0, l1, .int x] S Z I J := gq_istore e_28_1 h rfl rfl
theorem e_28_2 : g_Pg 28 2 = ga_iload 2 3 := (congrFun pg_28 2).trans rfl
theorem q_28_2 {l0 l1 : Value} {x : Int32} {S : List Value} {Z : gZ} {I : gI} {J : gJ} : g_at 28 2 [l0, l1, .int x] S Z I J = g_at 28 3 [l0, l1, .int x] (.int x :: S) Z I J := gq_iload e_28_2 rfl
theorem e_28_3 : g_Pg 28 3 = ga_push (.int 41) 5 := (congrFun pg_28 3).trans rfl
theorem q_28_3 {L : List Value} {S : List Value} {Z : gZ} {I : gI} {J : gJ} : g_at 28 3 L S Z I J = g_at 28 5 L (.int 41 :: S) Z I J := gq_push e_28_3
theorem e_28_5 : g_Pg 28 5 = ga_cmp (fun x y => decide (y < x)) 31 8 := (congrFun pg_28 5).trans rfl
theorem q_28_5 {L : List Value} {x y : Int32} {S : List Value} {Z : gZ} {I : gI} {J : gJ} : g_at 28 5 L (.int y :: .int x :: S) Z I J = if y < x then g_at 28 31 L S Z I J else g_at 28 8 L S Z I J := gq_cmp e_28_5 rfl
theorem e_28_8 : g_Pg 28 8 = ga_aload 0 9 := (congrFun pg_28 8).trans rfl
theorem q_28_8 {l1 l2 : Value} {x : Nat} {S : List Value} {Z : gZ} {I : gI} {J : gJ} : g_at 28 8 [.ref x, l1, l2] S Z I J = g_at 28 9 [.ref x, l1, l2] (.ref x :: S) Z I J := gq_aload e_28_8 rfl
theorem e_28_9 : g_Pg 28 9 = ga_getR 2 0 12 := (congrFun pg_28 9).trans rfl
theorem q_28_9 {L : List Value} {a : Nat} {S : List Value} {Z : gZ} {I : gI} {J : gJ} (h : (gKd Z a).1 = 2) (h1 : gRs Z a 0 = true) : g_at 28 9 L (.ref a :: S) Z I J = g_at 28 12 L (.ref (gRq Z a 0) :: S) Z I J := gq_getR e_28_9 h h1
theorem e_28_12 : g_Pg 28 12 = ga_iload 1 13 := (congrFun pg_28 12).trans rfl
theorem q_28_12 {l0 l2 : Value} {x : Int32} {S : List Value} {Z : gZ} {I : gI} {J : gJ} : g_at 28 12 [l0, .int x, l2] S Z I J = g_at 28 13 [l0, .int x, l2] (.int x :: S) Z I J := gq_iload e_28_12 rfl
theorem e_28_13 : g_Pg 28 13 = ga_lald 14 := (congrFun pg_28 13).trans rfl
theorem q_28_13 {L : List Value} {a : Nat} {i : Int32} {S : List Value} {Z : gZ} {I : gI} {J : gJ} (h : (gKd Z a).1 = 10) (h0 : 0 ≤ i) (h1 : i.toNatClampNeg < (gKd Z a).2) : g_at 28 13 L (.int i :: .ref a :: S) Z I J = g_at 28 14 L (.long (J a i.toNatClampNeg) :: S) Z I J := gq_lald e_28_13 h h0 h1
theorem e_28_14 : g_Pg 28 14 = ga_iload 2 15 := (congrFun pg_28 14).trans rfl
theorem q_28_14 {l0 l1 : Value} {x : Int32} {S : List Value} {Z : gZ} {I : gI} {J : gJ} : g_at 28 14 [l0, l1, .int x] S Z I J = g_at 28 15 [l0, l1, .int x] (.int x :: S) Z I J := gq_iload e_28_14 rfl
theorem e_28_15 : g_Pg 28 15 = ga_lsh (fun x y => x >>> (y.toInt64 &&& 63)) 16 := (congrFun pg_28 15).trans rfl
theorem q_28_15 {L : List Value} {x : Int64} {y : Int32} {S : List Value} {Z : gZ} {I : gI} {J : gJ} : g_at 28 15 L (.int y :: .long x :: S) Z I J = g_at 28 16 L (.long (x >>> (y.toInt64 &&& 63)) :: S) Z I J := gq_lsh e_28_15
theorem e_28_16 : g_Pg 28 16 = ga_push (.long 1) 17 := (congrFun pg_28 16).trans rfl
theorem q_28_16 {L : List Value} {S : List Value} {Z : gZ} {I : gI} {J : gJ} : g_at 28 16 L S Z I J = g_at 28 17 L (.long 1 :: S) Z I J := gq_push e_28_16
theorem e_28_17 : g_Pg 28 17 = ga_lbin (fun x y => x &&& y) 18 := (congrFun pg_28 17).trans rfl
theorem q_28_17 {L : List Value} {x y : Int64} {S : List Value} {Z : gZ} {I : gI} {J : gJ} : g_at 28 17 L (.long y :: .long x :: S) Z I J = g_at 28 18 L (.long (x &&& y) :: S) Z I J := gq_lbin e_28_17
theorem e_28_18 : g_Pg 28 18 = ga_push (.long 0) 19 := (congrFun pg_28 18).trans rfl
theorem q_28_18 {L : List Value} {S : List Value} {Z : gZ} {I : gI} {J : gJ} : g_at 28 18 L S Z I J = g_at 28 19 L (.long 0 :: S) Z I J := gq_push e_28_18
theorem e_28_19 : g_Pg 28 19 = ga_lcmp 20 := (congrFun pg_28 19).trans rfl
theorem q_28_19 {L : List Value} {x y : Int64} {S : List Value} {Z : gZ} {I : gI} {J : gJ} : g_at 28 19 L (.long y :: .long x :: S) Z I J = g_at 28 20 L (.int (lg_cmp x y) :: S) Z I J := gq_lcmp e_28_19
theorem e_28_20 : g_Pg 28 20 = ga_if (fun x => decide (x = 0)) 25 23 := (congrFun pg_28 20).trans rfl
theorem q_28_20 {L : List Value} {x : Int32} {S : List Value} {Z : gZ} {I : gI} {J : gJ} : g_at 28 20 L (.int x :: S) Z I J = if x = 0 then g_at 28 25 L S Z I J else g_at 28 23 L S Z I J := gq_if e_28_20 rfl
theorem e_28_23 : g_Pg 28 23 = ga_iload 2 24 := (congrFun pg_28 23).trans rfl
theorem q_28_23 {l0 l1 : Value} {x : Int32} {S : List Value} {Z : gZ} {I : gI} {J : gJ} : g_at 28 23 [l0, l1, .int x] S Z I J = g_at 28 24 [l0, l1, .int x] (.int x :: S) Z I J := gq_iload e_28_23 rfl
theorem e_28_24 : g_Pg 28 24 = ga_iret := (congrFun pg_28 24).trans rfl
theorem q_28_24 {L : List Value} {x : Int32} {Z : gZ} {I : gI} {J : gJ} : g_at 28 24 L [.int x] Z I J = some (some (.int x), Z, I, J) := gq_iret e_28_24
theorem e_28_25 : g_Pg 28 25 = ga_iinc 2 1 28 := (congrFun pg_28 25).trans rfl
theorem q_28_25 {l0 l1 : Value} {x : Int32} {S : List Value} {Z : gZ} {I : gI} {J : gJ} (h : gN1 l1 = true) : g_at 28 25 [l0, l1, .int x] S Z I J = g_at 28 28 [l0, l1, .int (x + 1)] S Z I J := gq_iinc e_28_25 rfl h rfl
theorem e_28_28 : g_Pg 28 28 = ga_goto 2 := (congrFun pg_28 28).trans rfl
theorem q_28_28 {L : List Value} {S : List Value} {Z : gZ} {I : gI} {J : gJ} : g_at 28 28 L S Z I J = g_at 28 2 L S Z I J := gq_goto e_28_28
theorem e_28_31 : g_Pg 28 31 = ga_push (.int (-1)) 32 := (congrFun pg_28 31).trans rfl
theorem q_28_31 {L : List Value} {S : List Value} {Z : gZ} {I : gI} {J : gJ} : g_at 28 31 L S Z I J = g_at 28 32 L (.int (-1) :: S) Z I J := gq_push e_28_31
theorem e_28_32 : g_Pg 28 32 = ga_iret := (congrFun pg_28 32).trans rfl
theorem q_28_32 {L : List Value} {x : Int32} {Z : gZ} {I : gI} {J : gJ} : g_at 28 32 L [.int x] Z I J = some (some (.int x), Z, I, J) := gq_iret e_28_32
theorem e_29_0 : g_Pg 29 0 = ga_push (.int 0) 1 := (congrFun pg_29 0).trans rfl
theorem q_29_0 {L : List Value} {S : List Value} {Z : gZ} {I : gI} {J : gJ} : g_at 29 0 L S Z I J = g_at 29 1 L (.int 0 :: S) Z I J := gq_push e_29_0
theorem e_29_1 : g_Pg 29 1 = ga_istore 1 2 := (congrFun pg_29 1).trans rfl
theorem q_29_1 {l0 l1 l2 : Value} {x : Int32} {S : List Value} {Z : gZ} {I : gI} {J : gJ} (h : gN1 l0 = true) : g_at 29 1 [l0, l1, l2] (.int x :: S) Z I J = g_at 29 2 [l0, .int x, l2] S Z I J := gq_istore e_29_1 h rfl rfl
theorem e_29_2 : g_Pg 29 2 = ga_push (.int 0) 3 := (congrFun pg_29 2).trans rfl
theorem q_29_2 {L : List Value} {S : List Value} {Z : gZ} {I : gI} {J : gJ} : g_at 29 2 L S Z I J = g_at 29 3 L (.int 0 :: S) Z I J := gq_push e_29_2
theorem e_29_3 : g_Pg 29 3 = ga_istore 2 4 := (congrFun pg_29 3).trans rfl
theorem q_29_3 {l0 l1 l2 : Value} {x : Int32} {S : List Value} {Z : gZ} {I : gI} {J : gJ} (h : gN1 l1 = true) : g_at 29 3 [l0, l1, l2] (.int x :: S) Z I J = g_at 29 4 [l0, l1, .int x] S Z I J := gq_istore e_29_3 h rfl rfl
theorem e_29_4 : g_Pg 29 4 = ga_iload 2 5 := (congrFun pg_29 4).trans rfl
theorem q_29_4 {l0 l1 : Value} {x : Int32} {S : List Value} {Z : gZ} {I : gI} {J : gJ} : g_at 29 4 [l0, l1, .int x] S Z I J = g_at 29 5 [l0, l1, .int x] (.int x :: S) Z I J := gq_iload e_29_4 rfl
theorem e_29_5 : g_Pg 29 5 = ga_push (.int 10) 7 := (congrFun pg_29 5).trans rfl
theorem q_29_5 {L : List Value} {S : List Value} {Z : gZ} {I : gI} {J : gJ} : g_at 29 5 L S Z I J = g_at 29 7 L (.int 10 :: S) Z I J := gq_push e_29_5
theorem e_29_7 : g_Pg 29 7 = ga_cmp (fun x y => decide (y ≤ x)) 33 10 := (congrFun pg_29 7).trans rfl
theorem q_29_7 {L : List Value} {x y : Int32} {S : List Value} {Z : gZ} {I : gI} {J : gJ} : g_at 29 7 L (.int y :: .int x :: S) Z I J = if y ≤ x then g_at 29 33 L S Z I J else g_at 29 10 L S Z I J := gq_cmp e_29_7 rfl
theorem e_29_10 : g_Pg 29 10 = ga_aload 0 11 := (congrFun pg_29 10).trans rfl
theorem q_29_10 {l1 l2 : Value} {x : Nat} {S : List Value} {Z : gZ} {I : gI} {J : gJ} : g_at 29 10 [.ref x, l1, l2] S Z I J = g_at 29 11 [.ref x, l1, l2] (.ref x :: S) Z I J := gq_aload e_29_10 rfl
theorem e_29_11 : g_Pg 29 11 = ga_getR 2 0 14 := (congrFun pg_29 11).trans rfl
theorem q_29_11 {L : List Value} {a : Nat} {S : List Value} {Z : gZ} {I : gI} {J : gJ} (h : (gKd Z a).1 = 2) (h1 : gRs Z a 0 = true) : g_at 29 11 L (.ref a :: S) Z I J = g_at 29 14 L (.ref (gRq Z a 0) :: S) Z I J := gq_getR e_29_11 h h1
theorem e_29_14 : g_Pg 29 14 = ga_iload 2 15 := (congrFun pg_29 14).trans rfl
theorem q_29_14 {l0 l1 : Value} {x : Int32} {S : List Value} {Z : gZ} {I : gI} {J : gJ} : g_at 29 14 [l0, l1, .int x] S Z I J = g_at 29 15 [l0, l1, .int x] (.int x :: S) Z I J := gq_iload e_29_14 rfl
theorem e_29_15 : g_Pg 29 15 = ga_lald 16 := (congrFun pg_29 15).trans rfl
theorem q_29_15 {L : List Value} {a : Nat} {i : Int32} {S : List Value} {Z : gZ} {I : gI} {J : gJ} (h : (gKd Z a).1 = 10) (h0 : 0 ≤ i) (h1 : i.toNatClampNeg < (gKd Z a).2) : g_at 29 15 L (.int i :: .ref a :: S) Z I J = g_at 29 16 L (.long (J a i.toNatClampNeg) :: S) Z I J := gq_lald e_29_15 h h0 h1
theorem e_29_16 : g_Pg 29 16 = ga_push (.long 0) 17 := (congrFun pg_29 16).trans rfl
theorem q_29_16 {L : List Value} {S : List Value} {Z : gZ} {I : gI} {J : gJ} : g_at 29 16 L S Z I J = g_at 29 17 L (.long 0 :: S) Z I J := gq_push e_29_16
theorem e_29_17 : g_Pg 29 17 = ga_lcmp 18 := (congrFun pg_29 17).trans rfl
theorem q_29_17 {L : List Value} {x y : Int64} {S : List Value} {Z : gZ} {I : gI} {J : gJ} : g_at 29 17 L (.long y :: .long x :: S) Z I J = g_at 29 18 L (.int (lg_cmp x y) :: S) Z I J := gq_lcmp e_29_17
theorem e_29_18 : g_Pg 29 18 = ga_if (fun x => decide (x = 0)) 27 21 := (congrFun pg_29 18).trans rfl
theorem q_29_18 {L : List Value} {x : Int32} {S : List Value} {Z : gZ} {I : gI} {J : gJ} : g_at 29 18 L (.int x :: S) Z I J = if x = 0 then g_at 29 27 L S Z I J else g_at 29 21 L S Z I J := gq_if e_29_18 rfl
theorem e_29_21 : g_Pg 29 21 = ga_iload 1 22 := (congrFun pg_29 21).trans rfl
theorem q_29_21 {l0 l2 : Value} {x : Int32} {S : List Value} {Z : gZ} {I : gI} {J : gJ} : g_at 29 21 [l0, .int x, l2] S Z I J = g_at 29 22 [l0, .int x, l2] (.int x :: S) Z I J := gq_iload e_29_21 rfl
theorem e_29_22 : g_Pg 29 22 = ga_push (.int 1) 23 := (congrFun pg_29 22).trans rfl
theorem q_29_22 {L : List Value} {S : List Value} {Z : gZ} {I : gI} {J : gJ} : g_at 29 22 L S Z I J = g_at 29 23 L (.int 1 :: S) Z I J := gq_push e_29_22
theorem e_29_23 : g_Pg 29 23 = ga_iload 2 24 := (congrFun pg_29 23).trans rfl
theorem q_29_23 {l0 l1 : Value} {x : Int32} {S : List Value} {Z : gZ} {I : gI} {J : gJ} : g_at 29 23 [l0, l1, .int x] S Z I J = g_at 29 24 [l0, l1, .int x] (.int x :: S) Z I J := gq_iload e_29_23 rfl
theorem e_29_24 : g_Pg 29 24 = ga_bin (fun x y => x <<< (y &&& 31)) 25 := (congrFun pg_29 24).trans rfl
theorem q_29_24 {L : List Value} {x y : Int32} {S : List Value} {Z : gZ} {I : gI} {J : gJ} : g_at 29 24 L (.int y :: .int x :: S) Z I J = g_at 29 25 L (.int (x <<< (y &&& 31)) :: S) Z I J := gq_bin e_29_24
theorem e_29_25 : g_Pg 29 25 = ga_bin (fun x y => x ||| y) 26 := (congrFun pg_29 25).trans rfl
theorem q_29_25 {L : List Value} {x y : Int32} {S : List Value} {Z : gZ} {I : gI} {J : gJ} : g_at 29 25 L (.int y :: .int x :: S) Z I J = g_at 29 26 L (.int (x ||| y) :: S) Z I J := gq_bin e_29_25
theorem e_29_26 : g_Pg 29 26 = ga_istore 1 27 := (congrFun pg_29 26).trans rfl
theorem q_29_26 {l0 l1 l2 : Value} {x : Int32} {S : List Value} {Z : gZ} {I : gI} {J : gJ} (h : gN1 l0 = true) : g_at 29 26 [l0, l1, l2] (.int x :: S) Z I J = g_at 29 27 [l0, .int x, l2] S Z I J := gq_istore e_29_26 h rfl rfl
theorem e_29_27 : g_Pg 29 27 = ga_iinc 2 1 30 := (congrFun pg_29 27).trans rfl
theorem q_29_27 {l0 l1 : Value} {x : Int32} {S : List Value} {Z : gZ} {I : gI} {J : gJ} (h : gN1 l1 = true) : g_at 29 27 [l0, l1, .int x] S Z I J = g_at 29 30 [l0, l1, .int (x + 1)] S Z I J := gq_iinc e_29_27 rfl h rfl
theorem e_29_30 : g_Pg 29 30 = ga_goto 4 := (congrFun pg_29 30).trans rfl
theorem q_29_30 {L : List Value} {S : List Value} {Z : gZ} {I : gI} {J : gJ} : g_at 29 30 L S Z I J = g_at 29 4 L S Z I J := gq_goto e_29_30
theorem e_29_33 : g_Pg 29 33 = ga_iload 1 34 := (congrFun pg_29 33).trans rfl
theorem q_29_33 {l0 l2 : Value} {x : Int32} {S : List Value} {Z : gZ} {I : gI} {J : gJ} : g_at 29 33 [l0, .int x, l2] S Z I J = g_at 29 34 [l0, .int x, l2] (.int x :: S) Z I J := gq_iload e_29_33 rfl
theorem e_29_34 : g_Pg 29 34 = ga_iret := (congrFun pg_29 34).trans rfl
theorem q_29_34 {L : List Value} {x : Int32} {Z : gZ} {I : gI} {J : gJ} : g_at 29 34 L [.int x] Z I J = some (some (.int x), Z, I, J) := gq_iret e_29_34
theorem e_30_0 : g_Pg 30 0 = ga_push (.int 0) 1 := (congrFun pg_30 0).trans rfl
theorem q_30_0 {L : List Value} {S : List Value} {Z : gZ} {I : gI} {J : gJ} : g_at 30 0 L S Z I J = g_at 30 1 L (.int 0 :: S) Z I J := gq_push e_30_0
theorem e_30_1 : g_Pg 30 1 = ga_istore 1 2 := (congrFun pg_30 1).trans rfl
theorem q_30_1 {l0 l1 l2 : Value} {x : Int32} {S : List Value} {Z : gZ} {I : gI} {J : gJ} (h : gN1 l0 = true) : g_at 30 1 [l0, l1, l2] (.int x :: S) Z I J = g_at 30 2 [l0, .int x, l2] S Z I J := gq_istore e_30_1 h rfl rfl
theorem e_30_2 : g_Pg 30 2 = ga_push (.int 0) 3 := (congrFun pg_30 2).trans rfl
theorem q_30_2 {L : List Value} {S : List Value} {Z : gZ} {I : gI} {J : gJ} : g_at 30 2 L S Z I J = g_at 30 3 L (.int 0 :: S) Z I J := gq_push e_30_2
theorem e_30_3 : g_Pg 30 3 = ga_istore 2 4 := (congrFun pg_30 3).trans rfl
theorem q_30_3 {l0 l1 l2 : Value} {x : Int32} {S : List Value} {Z : gZ} {I : gI} {J : gJ} (h : gN1 l1 = true) : g_at 30 3 [l0, l1, l2] (.int x :: S) Z I J = g_at 30 4 [l0, l1, .int x] S Z I J := gq_istore e_30_3 h rfl rfl
theorem e_30_4 : g_Pg 30 4 = ga_iload 2 5 := (congrFun pg_30 4).trans rfl
theorem q_30_4 {l0 l1 : Value} {x : Int32} {S : List Value} {Z : gZ} {I : gI} {J : gJ} : g_at 30 4 [l0, l1, .int x] S Z I J = g_at 30 5 [l0, l1, .int x] (.int x :: S) Z I J := gq_iload e_30_4 rfl
theorem e_30_5 : g_Pg 30 5 = ga_push (.int 10) 7 := (congrFun pg_30 5).trans rfl
theorem q_30_5 {L : List Value} {S : List Value} {Z : gZ} {I : gI} {J : gJ} : g_at 30 5 L S Z I J = g_at 30 7 L (.int 10 :: S) Z I J := gq_push e_30_5
theorem e_30_7 : g_Pg 30 7 = ga_cmp (fun x y => decide (y ≤ x)) 25 10 := (congrFun pg_30 7).trans rfl
theorem q_30_7 {L : List Value} {x y : Int32} {S : List Value} {Z : gZ} {I : gI} {J : gJ} : g_at 30 7 L (.int y :: .int x :: S) Z I J = if y ≤ x then g_at 30 25 L S Z I J else g_at 30 10 L S Z I J := gq_cmp e_30_7 rfl
theorem e_30_10 : g_Pg 30 10 = ga_iload 1 11 := (congrFun pg_30 10).trans rfl
theorem q_30_10 {l0 l2 : Value} {x : Int32} {S : List Value} {Z : gZ} {I : gI} {J : gJ} : g_at 30 10 [l0, .int x, l2] S Z I J = g_at 30 11 [l0, .int x, l2] (.int x :: S) Z I J := gq_iload e_30_10 rfl
theorem e_30_11 : g_Pg 30 11 = ga_aload 0 12 := (congrFun pg_30 11).trans rfl
theorem q_30_11 {l1 l2 : Value} {x : Nat} {S : List Value} {Z : gZ} {I : gI} {J : gJ} : g_at 30 11 [.ref x, l1, l2] S Z I J = g_at 30 12 [.ref x, l1, l2] (.ref x :: S) Z I J := gq_aload e_30_11 rfl
theorem e_30_12 : g_Pg 30 12 = ga_getR 2 1 15 := (congrFun pg_30 12).trans rfl
theorem q_30_12 {L : List Value} {a : Nat} {S : List Value} {Z : gZ} {I : gI} {J : gJ} (h : (gKd Z a).1 = 2) (h1 : gRs Z a 1 = true) : g_at 30 12 L (.ref a :: S) Z I J = g_at 30 15 L (.ref (gRq Z a 1) :: S) Z I J := gq_getR e_30_12 h h1
theorem e_30_15 : g_Pg 30 15 = ga_iload 2 16 := (congrFun pg_30 15).trans rfl
theorem q_30_15 {l0 l1 : Value} {x : Int32} {S : List Value} {Z : gZ} {I : gI} {J : gJ} : g_at 30 15 [l0, l1, .int x] S Z I J = g_at 30 16 [l0, l1, .int x] (.int x :: S) Z I J := gq_iload e_30_15 rfl
theorem e_30_16 : g_Pg 30 16 = ga_iald 17 := (congrFun pg_30 16).trans rfl
theorem q_30_16 {L : List Value} {a : Nat} {i : Int32} {S : List Value} {Z : gZ} {I : gI} {J : gJ} (h : gTg8 (gKd Z a).1 a = true) (h0 : 0 ≤ i) (h1 : i.toNatClampNeg < (gKd Z a).2) : g_at 30 16 L (.int i :: .ref a :: S) Z I J = g_at 30 17 L (.int (I a i.toNatClampNeg) :: S) Z I J := gq_iald e_30_16 h h0 h1
theorem e_30_17 : g_Pg 30 17 = ga_bin (fun x y => x + y) 18 := (congrFun pg_30 17).trans rfl
theorem q_30_17 {L : List Value} {x y : Int32} {S : List Value} {Z : gZ} {I : gI} {J : gJ} : g_at 30 17 L (.int y :: .int x :: S) Z I J = g_at 30 18 L (.int (x + y) :: S) Z I J := gq_bin e_30_17
theorem e_30_18 : g_Pg 30 18 = ga_istore 1 19 := (congrFun pg_30 18).trans rfl
theorem q_30_18 {l0 l1 l2 : Value} {x : Int32} {S : List Value} {Z : gZ} {I : gI} {J : gJ} (h : gN1 l0 = true) : g_at 30 18 [l0, l1, l2] (.int x :: S) Z I J = g_at 30 19 [l0, .int x, l2] S Z I J := gq_istore e_30_18 h rfl rfl
theorem e_30_19 : g_Pg 30 19 = ga_iinc 2 1 22 := (congrFun pg_30 19).trans rfl
theorem q_30_19 {l0 l1 : Value} {x : Int32} {S : List Value} {Z : gZ} {I : gI} {J : gJ} (h : gN1 l1 = true) : g_at 30 19 [l0, l1, .int x] S Z I J = g_at 30 22 [l0, l1, .int (x + 1)] S Z I J := gq_iinc e_30_19 rfl h rfl
theorem e_30_22 : g_Pg 30 22 = ga_goto 4 := (congrFun pg_30 22).trans rfl
theorem q_30_22 {L : List Value} {S : List Value} {Z : gZ} {I : gI} {J : gJ} : g_at 30 22 L S Z I J = g_at 30 4 L S Z I J := gq_goto e_30_22
theorem e_30_25 : g_Pg 30 25 = ga_iload 1 26 := (congrFun pg_30 25).trans rfl
theorem q_30_25 {l0 l2 : Value} {x : Int32} {S : List Value} {Z : gZ} {I : gI} {J : gJ} : g_at 30 25 [l0, .int x, l2] S Z I J = g_at 30 26 [l0, .int x, l2] (.int x :: S) Z I J := gq_iload e_30_25 rfl
theorem e_30_26 : g_Pg 30 26 = ga_iret := (congrFun pg_30 26).trans rfl
theorem q_30_26 {L : List Value} {x : Int32} {Z : gZ} {I : gI} {J : gJ} : g_at 30 26 L [.int x] Z I J = some (some (.int x), Z, I, J) := gq_iret e_30_26
theorem e_31_0 : g_Pg 31 0 = ga_aload 0 1 := (congrFun pg_31 0).trans rfl
theorem q_31_0 {x : Nat} {S : List Value} {Z : gZ} {I : gI} {J : gJ} : g_at 31 0 [.ref x] S Z I J = g_at 31 1 [.ref x] (.ref x :: S) Z I J := gq_aload e_31_0 rfl
theorem e_31_1 : g_Pg 31 1 = ga_oinit 4 := (congrFun pg_31 1).trans rfl
theorem q_31_1 {L : List Value} {x : Nat} {Z : gZ} {I : gI} {J : gJ} : g_at 31 1 L [.ref x] Z I J = g_at 31 4 L [] Z I J := gq_oinit e_31_1
theorem e_31_4 : g_Pg 31 4 = ga_aload 0 5 := (congrFun pg_31 4).trans rfl
theorem q_31_4 {x : Nat} {S : List Value} {Z : gZ} {I : gI} {J : gJ} : g_at 31 4 [.ref x] S Z I J = g_at 31 5 [.ref x] (.ref x :: S) Z I J := gq_aload e_31_4 rfl
theorem e_31_5 : g_Pg 31 5 = ga_push (.int 8) 7 := (congrFun pg_31 5).trans rfl
theorem q_31_5 {L : List Value} {S : List Value} {Z : gZ} {I : gI} {J : gJ} : g_at 31 5 L S Z I J = g_at 31 7 L (.int 8 :: S) Z I J := gq_push e_31_5
theorem e_31_7 : g_Pg 31 7 = ga_newa 8 9 := (congrFun pg_31 7).trans rfl
theorem q_31_7 {L : List Value} {n : Int32} {S : List Value} {Z : gZ} {I : gI} {J : gJ} (h : Z.1 < 1000) (h0 : 0 ≤ n) (h1 : n.toNatClampNeg ≤ 1000) : g_at 31 7 L (.int n :: S) Z I J = g_at 31 9 L (.ref Z.1 :: S) (Z.1 + 1, Z.2.1 + n.toNatClampNeg, va_up Z.2.2.1 Z.1 (8, n.toNatClampNeg), va_up Z.2.2.2 Z.1 (fun _ => none)) (va_up I Z.1 (fun _ => 0)) (va_up J Z.1 (fun _ => 0)) := gq_newa e_31_7 h h0 h1
theorem e_31_9 : g_Pg 31 9 = ga_putR 3 0 12 := (congrFun pg_31 9).trans rfl
theorem q_31_9 {L : List Value} {a v : Nat} {S : List Value} {Z : gZ} {I : gI} {J : gJ} (h : (gKd Z a).1 = 3) : g_at 31 9 L (.ref v :: .ref a :: S) Z I J = g_at 31 12 L S (Z.1, Z.2.1, Z.2.2.1, va_up Z.2.2.2 a (va_up (Z.2.2.2 a) 0 (some v))) I J := gq_putR e_31_9 h
theorem e_31_12 : g_Pg 31 12 = ga_aload 0 13 := (congrFun pg_31 12).trans rfl
theorem q_31_12 {x : Nat} {S : List Value} {Z : gZ} {I : gI} {J : gJ} : g_at 31 12 [.ref x] S Z I J = g_at 31 13 [.ref x] (.ref x :: S) Z I J := gq_aload e_31_12 rfl
theorem e_31_13 : g_Pg 31 13 = ga_push (.int 8) 15 := (congrFun pg_31 13).trans rfl
theorem q_31_13 {L : List Value} {S : List Value} {Z : gZ} {I : gI} {J : gJ} : g_at 31 13 L S Z I J = g_at 31 15 L (.int 8 :: S) Z I J := gq_push e_31_13
theorem e_31_15 : g_Pg 31 15 = ga_newa 9 17 := (congrFun pg_31 15).trans rfl
theorem q_31_15 {L : List Value} {n : Int32} {S : List Value} {Z : gZ} {I : gI} {J : gJ} (h : Z.1 < 1000) (h0 : 0 ≤ n) (h1 : n.toNatClampNeg ≤ 1000) : g_at 31 15 L (.int n :: S) Z I J = g_at 31 17 L (.ref Z.1 :: S) (Z.1 + 1, Z.2.1 + n.toNatClampNeg, va_up Z.2.2.1 Z.1 (9, n.toNatClampNeg), va_up Z.2.2.2 Z.1 (fun _ => none)) (va_up I Z.1 (fun _ => 0)) (va_up J Z.1 (fun _ => 0)) := gq_newa e_31_15 h h0 h1
theorem e_31_17 : g_Pg 31 17 = ga_putR 3 1 20 := (congrFun pg_31 17).trans rfl
theorem q_31_17 {L : List Value} {a v : Nat} {S : List Value} {Z : gZ} {I : gI} {J : gJ} (h : (gKd Z a).1 = 3) : g_at 31 17 L (.ref v :: .ref a :: S) Z I J = g_at 31 20 L S (Z.1, Z.2.1, Z.2.2.1, va_up Z.2.2.2 a (va_up (Z.2.2.2 a) 1 (some v))) I J := gq_putR e_31_17 h
theorem e_31_20 : g_Pg 31 20 = ga_vret := (congrFun pg_31 20).trans rfl
theorem q_31_20 {L : List Value} {Z : gZ} {I : gI} {J : gJ} : g_at 31 20 L [] Z I J = some (none, Z, I, J) := gq_vret e_31_20
theorem e_32_0 : g_Pg 32 0 = ga_aload 0 1 := (congrFun pg_32 0).trans rfl
theorem q_32_0 {l1 l2 : Value} {x : Nat} {S : List Value} {Z : gZ} {I : gI} {J : gJ} : g_at 32 0 [.ref x, l1, l2] S Z I J = g_at 32 1 [.ref x, l1, l2] (.ref x :: S) Z I J := gq_aload e_32_0 rfl
theorem e_32_1 : g_Pg 32 1 = ga_getI 3 2 4 := (congrFun pg_32 1).trans rfl
theorem q_32_1 {L : List Value} {a : Nat} {S : List Value} {Z : gZ} {I : gI} {J : gJ} (h : (gKd Z a).1 = 3) : g_at 32 1 L (.ref a :: S) Z I J = g_at 32 4 L (.int (I a 2) :: S) Z I J := gq_getI e_32_1 h
theorem e_32_4 : g_Pg 32 4 = ga_push (.int 8) 6 := (congrFun pg_32 4).trans rfl
theorem q_32_4 {L : List Value} {S : List Value} {Z : gZ} {I : gI} {J : gJ} : g_at 32 4 L S Z I J = g_at 32 6 L (.int 8 :: S) Z I J := gq_push e_32_4
theorem e_32_6 : g_Pg 32 6 = ga_cmp (fun x y => decide (x < y)) 11 9 := (congrFun pg_32 6).trans rfl
theorem q_32_6 {L : List Value} {x y : Int32} {S : List Value} {Z : gZ} {I : gI} {J : gJ} : g_at 32 6 L (.int y :: .int x :: S) Z I J = if x < y then g_at 32 11 L S Z I J else g_at 32 9 L S Z I J := gq_cmp e_32_6 rfl
theorem e_32_9 : g_Pg 32 9 = ga_push (.int 0) 10 := (congrFun pg_32 9).trans rfl
theorem q_32_9 {L : List Value} {S : List Value} {Z : gZ} {I : gI} {J : gJ} : g_at 32 9 L S Z I J = g_at 32 10 L (.int 0 :: S) Z I J := gq_push e_32_9
theorem e_32_10 : g_Pg 32 10 = ga_zret := (congrFun pg_32 10).trans rfl
theorem q_32_10 {L : List Value} {x : Int32} {Z : gZ} {I : gI} {J : gJ} (h : gB01 x = true) : g_at 32 10 L [.int x] Z I J = some (some (.int x), Z, I, J) := gq_zret e_32_10 h
theorem e_32_11 : g_Pg 32 11 = ga_aload 0 12 := (congrFun pg_32 11).trans rfl
theorem q_32_11 {l1 l2 : Value} {x : Nat} {S : List Value} {Z : gZ} {I : gI} {J : gJ} : g_at 32 11 [.ref x, l1, l2] S Z I J = g_at 32 12 [.ref x, l1, l2] (.ref x :: S) Z I J := gq_aload e_32_11 rfl
theorem e_32_12 : g_Pg 32 12 = ga_getR 3 0 15 := (congrFun pg_32 12).trans rfl
theorem q_32_12 {L : List Value} {a : Nat} {S : List Value} {Z : gZ} {I : gI} {J : gJ} (h : (gKd Z a).1 = 3) (h1 : gRs Z a 0 = true) : g_at 32 12 L (.ref a :: S) Z I J = g_at 32 15 L (.ref (gRq Z a 0) :: S) Z I J := gq_getR e_32_12 h h1
theorem e_32_15 : g_Pg 32 15 = ga_aload 0 16 := (congrFun pg_32 15).trans rfl
theorem q_32_15 {l1 l2 : Value} {x : Nat} {S : List Value} {Z : gZ} {I : gI} {J : gJ} : g_at 32 15 [.ref x, l1, l2] S Z I J = g_at 32 16 [.ref x, l1, l2] (.ref x :: S) Z I J := gq_aload e_32_15 rfl
theorem e_32_16 : g_Pg 32 16 = ga_getI 3 2 19 := (congrFun pg_32 16).trans rfl
theorem q_32_16 {L : List Value} {a : Nat} {S : List Value} {Z : gZ} {I : gI} {J : gJ} (h : (gKd Z a).1 = 3) : g_at 32 16 L (.ref a :: S) Z I J = g_at 32 19 L (.int (I a 2) :: S) Z I J := gq_getI e_32_16 h
theorem e_32_19 : g_Pg 32 19 = ga_iload 1 20 := (congrFun pg_32 19).trans rfl
theorem q_32_19 {l0 l2 : Value} {x : Int32} {S : List Value} {Z : gZ} {I : gI} {J : gJ} : g_at 32 19 [l0, .int x, l2] S Z I J = g_at 32 20 [l0, .int x, l2] (.int x :: S) Z I J := gq_iload e_32_19 rfl
theorem e_32_20 : g_Pg 32 20 = ga_iast 21 := (congrFun pg_32 20).trans rfl
theorem q_32_20 {L : List Value} {a : Nat} {i : Int32} {v : Int32} {S : List Value} {Z : gZ} {I : gI} {J : gJ} (h : (gKd Z a).1 = 8) (h0 : 0 ≤ i) (h1 : i.toNatClampNeg < (gKd Z a).2) : g_at 32 20 L (.int v :: .int i :: .ref a :: S) Z I J = g_at 32 21 L S Z (va_up I a (va_up (I a) i.toNatClampNeg v)) J := gq_iast e_32_20 h h0 h1
theorem e_32_21 : g_Pg 32 21 = ga_aload 0 22 := (congrFun pg_32 21).trans rfl
theorem q_32_21 {l1 l2 : Value} {x : Nat} {S : List Value} {Z : gZ} {I : gI} {J : gJ} : g_at 32 21 [.ref x, l1, l2] S Z I J = g_at 32 22 [.ref x, l1, l2] (.ref x :: S) Z I J := gq_aload e_32_21 rfl
theorem e_32_22 : g_Pg 32 22 = ga_getR 3 1 25 := (congrFun pg_32 22).trans rfl
theorem q_32_22 {L : List Value} {a : Nat} {S : List Value} {Z : gZ} {I : gI} {J : gJ} (h : (gKd Z a).1 = 3) (h1 : gRs Z a 1 = true) : g_at 32 22 L (.ref a :: S) Z I J = g_at 32 25 L (.ref (gRq Z a 1) :: S) Z I J := gq_getR e_32_22 h h1
theorem e_32_25 : g_Pg 32 25 = ga_aload 0 26 := (congrFun pg_32 25).trans rfl
theorem q_32_25 {l1 l2 : Value} {x : Nat} {S : List Value} {Z : gZ} {I : gI} {J : gJ} : g_at 32 25 [.ref x, l1, l2] S Z I J = g_at 32 26 [.ref x, l1, l2] (.ref x :: S) Z I J := gq_aload e_32_25 rfl
theorem e_32_26 : g_Pg 32 26 = ga_getI 3 2 29 := (congrFun pg_32 26).trans rfl
theorem q_32_26 {L : List Value} {a : Nat} {S : List Value} {Z : gZ} {I : gI} {J : gJ} (h : (gKd Z a).1 = 3) : g_at 32 26 L (.ref a :: S) Z I J = g_at 32 29 L (.int (I a 2) :: S) Z I J := gq_getI e_32_26 h
theorem e_32_29 : g_Pg 32 29 = ga_iload 2 30 := (congrFun pg_32 29).trans rfl
theorem q_32_29 {l0 l1 : Value} {x : Int32} {S : List Value} {Z : gZ} {I : gI} {J : gJ} : g_at 32 29 [l0, l1, .int x] S Z I J = g_at 32 30 [l0, l1, .int x] (.int x :: S) Z I J := gq_iload e_32_29 rfl
theorem e_32_30 : g_Pg 32 30 = ga_bast 31 := (congrFun pg_32 30).trans rfl
theorem q_32_30 {L : List Value} {a : Nat} {i : Int32} {v : Int32} {S : List Value} {Z : gZ} {I : gI} {J : gJ} (h : (gKd Z a).1 = 9) (h0 : 0 ≤ i) (h1 : i.toNatClampNeg < (gKd Z a).2) (h2 : gB01 v = true) : g_at 32 30 L (.int v :: .int i :: .ref a :: S) Z I J = g_at 32 31 L S Z (va_up I a (va_up (I a) i.toNatClampNeg v)) J := gq_bast e_32_30 h h0 h1 h2
theorem e_32_31 : g_Pg 32 31 = ga_aload 0 32 := (congrFun pg_32 31).trans rfl
theorem q_32_31 {l1 l2 : Value} {x : Nat} {S : List Value} {Z : gZ} {I : gI} {J : gJ} : g_at 32 31 [.ref x, l1, l2] S Z I J = g_at 32 32 [.ref x, l1, l2] (.ref x :: S) Z I J := gq_aload e_32_31 rfl
theorem e_32_32 : g_Pg 32 32 = ga_dup 33 := (congrFun pg_32 32).trans rfl
theorem q_32_32 {L : List Value} {x : Nat} {S : List Value} {Z : gZ} {I : gI} {J : gJ} : g_at 32 32 L (.ref x :: S) Z I J = g_at 32 33 L (.ref x :: .ref x :: S) Z I J := gq_dup e_32_32
theorem e_32_33 : g_Pg 32 33 = ga_getI 3 2 36 := (congrFun pg_32 33).trans rfl
theorem q_32_33 {L : List Value} {a : Nat} {S : List Value} {Z : gZ} {I : gI} {J : gJ} (h : (gKd Z a).1 = 3) : g_at 32 33 L (.ref a :: S) Z I J = g_at 32 36 L (.int (I a 2) :: S) Z I J := gq_getI e_32_33 h
theorem e_32_36 : g_Pg 32 36 = ga_push (.int 1) 37 := (congrFun pg_32 36).trans rfl
theorem q_32_36 {L : List Value} {S : List Value} {Z : gZ} {I : gI} {J : gJ} : g_at 32 36 L S Z I J = g_at 32 37 L (.int 1 :: S) Z I J := gq_push e_32_36
theorem e_32_37 : g_Pg 32 37 = ga_bin (fun x y => x + y) 38 := (congrFun pg_32 37).trans rfl
theorem q_32_37 {L : List Value} {x y : Int32} {S : List Value} {Z : gZ} {I : gI} {J : gJ} : g_at 32 37 L (.int y :: .int x :: S) Z I J = g_at 32 38 L (.int (x + y) :: S) Z I J := gq_bin e_32_37
theorem e_32_38 : g_Pg 32 38 = ga_putI 3 2 41 := (congrFun pg_32 38).trans rfl
theorem q_32_38 {L : List Value} {a : Nat} {v : Int32} {S : List Value} {Z : gZ} {I : gI} {J : gJ} (h : (gKd Z a).1 = 3) : g_at 32 38 L (.int v :: .ref a :: S) Z I J = g_at 32 41 L S Z (va_up I a (va_up (I a) 2 v)) J := gq_putI e_32_38 h
theorem e_32_41 : g_Pg 32 41 = ga_push (.int 1) 42 := (congrFun pg_32 41).trans rfl
theorem q_32_41 {L : List Value} {S : List Value} {Z : gZ} {I : gI} {J : gJ} : g_at 32 41 L S Z I J = g_at 32 42 L (.int 1 :: S) Z I J := gq_push e_32_41
theorem e_32_42 : g_Pg 32 42 = ga_zret := (congrFun pg_32 42).trans rfl
theorem q_32_42 {L : List Value} {x : Int32} {Z : gZ} {I : gI} {J : gJ} (h : gB01 x = true) : g_at 32 42 L [.int x] Z I J = some (some (.int x), Z, I, J) := gq_zret e_32_42 h
theorem e_33_0 : g_Pg 33 0 = ga_push (.int 0) 1 := (congrFun pg_33 0).trans rfl
theorem q_33_0 {L : List Value} {S : List Value} {Z : gZ} {I : gI} {J : gJ} : g_at 33 0 L S Z I J = g_at 33 1 L (.int 0 :: S) Z I J := gq_push e_33_0
theorem e_33_1 : g_Pg 33 1 = ga_istore 2 2 := (congrFun pg_33 1).trans rfl
theorem q_33_1 {l0 l1 l2 : Value} {x : Int32} {S : List Value} {Z : gZ} {I : gI} {J : gJ} (h : gN1 l1 = true) : g_at 33 1 [l0, l1, l2] (.int x :: S) Z I J = g_at 33 2 [l0, l1, .int x] S Z I J := gq_istore e_33_1 h rfl rfl
theorem e_33_2 : g_Pg 33 2 = ga_iload 2 3 := (congrFun pg_33 2).trans rfl
theorem q_33_2 {l0 l1 : Value} {x : Int32} {S : List Value} {Z : gZ} {I : gI} {J : gJ} : g_at 33 2 [l0, l1, .int x] S Z I J = g_at 33 3 [l0, l1, .int x] (.int x :: S) Z I J := gq_iload e_33_2 rfl
theorem e_33_3 : g_Pg 33 3 = ga_aload 0 4 := (congrFun pg_33 3).trans rfl
theorem q_33_3 {l1 l2 : Value} {x : Nat} {S : List Value} {Z : gZ} {I : gI} {J : gJ} : g_at 33 3 [.ref x, l1, l2] S Z I J = g_at 33 4 [.ref x, l1, l2] (.ref x :: S) Z I J := gq_aload e_33_3 rfl
theorem e_33_4 : g_Pg 33 4 = ga_getI 3 2 7 := (congrFun pg_33 4).trans rfl
theorem q_33_4 {L : List Value} {a : Nat} {S : List Value} {Z : gZ} {I : gI} {J : gJ} (h : (gKd Z a).1 = 3) : g_at 33 4 L (.ref a :: S) Z I J = g_at 33 7 L (.int (I a 2) :: S) Z I J := gq_getI e_33_4 h
theorem e_33_7 : g_Pg 33 7 = ga_cmp (fun x y => decide (y ≤ x)) 45 10 := (congrFun pg_33 7).trans rfl
theorem q_33_7 {L : List Value} {x y : Int32} {S : List Value} {Z : gZ} {I : gI} {J : gJ} : g_at 33 7 L (.int y :: .int x :: S) Z I J = if y ≤ x then g_at 33 45 L S Z I J else g_at 33 10 L S Z I J := gq_cmp e_33_7 rfl
theorem e_33_10 : g_Pg 33 10 = ga_aload 0 11 := (congrFun pg_33 10).trans rfl
theorem q_33_10 {l1 l2 : Value} {x : Nat} {S : List Value} {Z : gZ} {I : gI} {J : gJ} : g_at 33 10 [.ref x, l1, l2] S Z I J = g_at 33 11 [.ref x, l1, l2] (.ref x :: S) Z I J := gq_aload e_33_10 rfl
theorem e_33_11 : g_Pg 33 11 = ga_getR 3 1 14 := (congrFun pg_33 11).trans rfl
theorem q_33_11 {L : List Value} {a : Nat} {S : List Value} {Z : gZ} {I : gI} {J : gJ} (h : (gKd Z a).1 = 3) (h1 : gRs Z a 1 = true) : g_at 33 11 L (.ref a :: S) Z I J = g_at 33 14 L (.ref (gRq Z a 1) :: S) Z I J := gq_getR e_33_11 h h1
theorem e_33_14 : g_Pg 33 14 = ga_iload 2 15 := (congrFun pg_33 14).trans rfl
theorem q_33_14 {l0 l1 : Value} {x : Int32} {S : List Value} {Z : gZ} {I : gI} {J : gJ} : g_at 33 14 [l0, l1, .int x] S Z I J = g_at 33 15 [l0, l1, .int x] (.int x :: S) Z I J := gq_iload e_33_14 rfl
theorem e_33_15 : g_Pg 33 15 = ga_bald 16 := (congrFun pg_33 15).trans rfl
theorem q_33_15 {L : List Value} {a : Nat} {i : Int32} {S : List Value} {Z : gZ} {I : gI} {J : gJ} (h : gTg9 (gKd Z a).1 a = true) (h0 : 0 ≤ i) (h1 : i.toNatClampNeg < (gKd Z a).2) : g_at 33 15 L (.int i :: .ref a :: S) Z I J = g_at 33 16 L (.int (I a i.toNatClampNeg) :: S) Z I J := gq_bald e_33_15 h h0 h1
theorem e_33_16 : g_Pg 33 16 = ga_iload 1 17 := (congrFun pg_33 16).trans rfl
theorem q_33_16 {l0 l2 : Value} {x : Int32} {S : List Value} {Z : gZ} {I : gI} {J : gJ} : g_at 33 16 [l0, .int x, l2] S Z I J = g_at 33 17 [l0, .int x, l2] (.int x :: S) Z I J := gq_iload e_33_16 rfl
theorem e_33_17 : g_Pg 33 17 = ga_aload 0 18 := (congrFun pg_33 17).trans rfl
theorem q_33_17 {l1 l2 : Value} {x : Nat} {S : List Value} {Z : gZ} {I : gI} {J : gJ} : g_at 33 17 [.ref x, l1, l2] S Z I J = g_at 33 18 [.ref x, l1, l2] (.ref x :: S) Z I J := gq_aload e_33_17 rfl
theorem e_33_18 : g_Pg 33 18 = ga_getR 3 0 21 := (congrFun pg_33 18).trans rfl
theorem q_33_18 {L : List Value} {a : Nat} {S : List Value} {Z : gZ} {I : gI} {J : gJ} (h : (gKd Z a).1 = 3) (h1 : gRs Z a 0 = true) : g_at 33 18 L (.ref a :: S) Z I J = g_at 33 21 L (.ref (gRq Z a 0) :: S) Z I J := gq_getR e_33_18 h h1
theorem e_33_21 : g_Pg 33 21 = ga_iload 2 22 := (congrFun pg_33 21).trans rfl
theorem q_33_21 {l0 l1 : Value} {x : Int32} {S : List Value} {Z : gZ} {I : gI} {J : gJ} : g_at 33 21 [l0, l1, .int x] S Z I J = g_at 33 22 [l0, l1, .int x] (.int x :: S) Z I J := gq_iload e_33_21 rfl
theorem e_33_22 : g_Pg 33 22 = ga_iald 23 := (congrFun pg_33 22).trans rfl
theorem q_33_22 {L : List Value} {a : Nat} {i : Int32} {S : List Value} {Z : gZ} {I : gI} {J : gJ} (h : gTg8 (gKd Z a).1 a = true) (h0 : 0 ≤ i) (h1 : i.toNatClampNeg < (gKd Z a).2) : g_at 33 22 L (.int i :: .ref a :: S) Z I J = g_at 33 23 L (.int (I a i.toNatClampNeg) :: S) Z I J := gq_iald e_33_22 h h0 h1
theorem e_33_23 : g_Pg 33 23 = ga_bin (fun x y => x >>> (y &&& 31)) 24 := (congrFun pg_33 23).trans rfl
theorem q_33_23 {L : List Value} {x y : Int32} {S : List Value} {Z : gZ} {I : gI} {J : gJ} : g_at 33 23 L (.int y :: .int x :: S) Z I J = g_at 33 24 L (.int (x >>> (y &&& 31)) :: S) Z I J := gq_bin e_33_23
theorem e_33_24 : g_Pg 33 24 = ga_push (.int 1) 25 := (congrFun pg_33 24).trans rfl
theorem q_33_24 {L : List Value} {S : List Value} {Z : gZ} {I : gI} {J : gJ} : g_at 33 24 L S Z I J = g_at 33 25 L (.int 1 :: S) Z I J := gq_push e_33_24
theorem e_33_25 : g_Pg 33 25 = ga_bin (fun x y => x &&& y) 26 := (congrFun pg_33 25).trans rfl
theorem q_33_25 {L : List Value} {x y : Int32} {S : List Value} {Z : gZ} {I : gI} {J : gJ} : g_at 33 25 L (.int y :: .int x :: S) Z I J = g_at 33 26 L (.int (x &&& y) :: S) Z I J := gq_bin e_33_25
theorem e_33_26 : g_Pg 33 26 = ga_if (fun x => decide (x = 0)) 33 29 := (congrFun pg_33 26).trans rfl
theorem q_33_26 {L : List Value} {x : Int32} {S : List Value} {Z : gZ} {I : gI} {J : gJ} : g_at 33 26 L (.int x :: S) Z I J = if x = 0 then g_at 33 33 L S Z I J else g_at 33 29 L S Z I J := gq_if e_33_26 rfl
theorem e_33_29 : g_Pg 33 29 = ga_push (.int 1) 30 := (congrFun pg_33 29).trans rfl
theorem q_33_29 {L : List Value} {S : List Value} {Z : gZ} {I : gI} {J : gJ} : g_at 33 29 L S Z I J = g_at 33 30 L (.int 1 :: S) Z I J := gq_push e_33_29
theorem e_33_30 : g_Pg 33 30 = ga_goto 34 := (congrFun pg_33 30).trans rfl
theorem q_33_30 {L : List Value} {S : List Value} {Z : gZ} {I : gI} {J : gJ} : g_at 33 30 L S Z I J = g_at 33 34 L S Z I J := gq_goto e_33_30
theorem e_33_33 : g_Pg 33 33 = ga_push (.int 0) 34 := (congrFun pg_33 33).trans rfl
theorem q_33_33 {L : List Value} {S : List Value} {Z : gZ} {I : gI} {J : gJ} : g_at 33 33 L S Z I J = g_at 33 34 L (.int 0 :: S) Z I J := gq_push e_33_33
theorem e_33_34 : g_Pg 33 34 = ga_cmp (fun x y => decide (x = y)) 39 37 := (congrFun pg_33 34).trans rfl
theorem q_33_34 {L : List Value} {x y : Int32} {S : List Value} {Z : gZ} {I : gI} {J : gJ} : g_at 33 34 L (.int y :: .int x :: S) Z I J = if x = y then g_at 33 39 L S Z I J else g_at 33 37 L S Z I J := gq_cmp e_33_34 rfl
theorem e_33_37 : g_Pg 33 37 = ga_push (.int 0) 38 := (congrFun pg_33 37).trans rfl
theorem q_33_37 {L : List Value} {S : List Value} {Z : gZ} {I : gI} {J : gJ} : g_at 33 37 L S Z I J = g_at 33 38 L (.int 0 :: S) Z I J := gq_push e_33_37
theorem e_33_38 : g_Pg 33 38 = ga_zret := (congrFun pg_33 38).trans rfl
theorem q_33_38 {L : List Value} {x : Int32} {Z : gZ} {I : gI} {J : gJ} (h : gB01 x = true) : g_at 33 38 L [.int x] Z I J = some (some (.int x), Z, I, J) := gq_zret e_33_38 h
theorem e_33_39 : g_Pg 33 39 = ga_iinc 2 1 42 := (congrFun pg_33 39).trans rfl
theorem q_33_39 {l0 l1 : Value} {x : Int32} {S : List Value} {Z : gZ} {I : gI} {J : gJ} (h : gN1 l1 = true) : g_at 33 39 [l0, l1, .int x] S Z I J = g_at 33 42 [l0, l1, .int (x + 1)] S Z I J := gq_iinc e_33_39 rfl h rfl
theorem e_33_42 : g_Pg 33 42 = ga_goto 2 := (congrFun pg_33 42).trans rfl
theorem q_33_42 {L : List Value} {S : List Value} {Z : gZ} {I : gI} {J : gJ} : g_at 33 42 L S Z I J = g_at 33 2 L S Z I J := gq_goto e_33_42
theorem e_33_45 : g_Pg 33 45 = ga_push (.int 1) 46 := (congrFun pg_33 45).trans rfl
theorem q_33_45 {L : List Value} {S : List Value} {Z : gZ} {I : gI} {J : gJ} : g_at 33 45 L S Z I J = g_at 33 46 L (.int 1 :: S) Z I J := gq_push e_33_45
theorem e_33_46 : g_Pg 33 46 = ga_zret := (congrFun pg_33 46).trans rfl
theorem q_33_46 {L : List Value} {x : Int32} {Z : gZ} {I : gI} {J : gJ} (h : gB01 x = true) : g_at 33 46 L [.int x] Z I J = some (some (.int x), Z, I, J) := gq_zret e_33_46 h
