theorem e_34_0 : g_Pg 34 0 = ga_aload 0 1 := (congrFun pg_34 0).trans rfl
theorem q_34_0 {x : Nat} {S : List Value} {Z : gZ} {I : gI} {J : gJ} : g_at 34 0 [.ref x] S Z I J = g_at 34 1 [.ref x] (.ref x :: S) Z I J := gq_aload e_34_0 rfl
theorem e_34_1 : g_Pg 34 1 = ga_oinit 4 := (congrFun pg_34 1).trans rfl
theorem q_34_1 {L : List Value} {x : Nat} {Z : gZ} {I : gI} {J : gJ} : g_at 34 1 L [.ref x] Z I J = g_at 34 4 L [] Z I J := gq_oinit e_34_1
theorem e_34_4 : g_Pg 34 4 = ga_aload 0 5 := (congrFun pg_34 4).trans rfl
theorem q_34_4 {x : Nat} {S : List Value} {Z : gZ} {I : gI} {J : gJ} : g_at 34 4 [.ref x] S Z I J = g_at 34 5 [.ref x] (.ref x :: S) Z I J := gq_aload e_34_4 rfl
theorem e_34_5 : g_Pg 34 5 = ga_push (.int 200) 8 := (congrFun pg_34 5).trans rfl
theorem q_34_5 {L : List Value} {S : List Value} {Z : gZ} {I : gI} {J : gJ} : g_at 34 5 L S Z I J = g_at 34 8 L (.int 200 :: S) Z I J := gq_push e_34_5
theorem e_34_8 : g_Pg 34 8 = ga_newa 8 10 := (congrFun pg_34 8).trans rfl
theorem q_34_8 {L : List Value} {n : Int32} {S : List Value} {Z : gZ} {I : gI} {J : gJ} (h : Z.1 < 1000) (h0 : 0 ≤ n) (h1 : n.toNatClampNeg ≤ 1000) : g_at 34 8 L (.int n :: S) Z I J = g_at 34 10 L (.ref Z.1 :: S) (Z.1 + 1, Z.2.1 + n.toNatClampNeg, va_up Z.2.2.1 Z.1 (8, n.toNatClampNeg), va_up Z.2.2.2 Z.1 (fun _ => none)) (va_up I Z.1 (fun _ => 0)) (va_up J Z.1 (fun _ => 0)) := gq_newa e_34_8 h h0 h1
theorem e_34_10 : g_Pg 34 10 = ga_putR 4 0 13 := (congrFun pg_34 10).trans rfl
theorem q_34_10 {L : List Value} {a v : Nat} {S : List Value} {Z : gZ} {I : gI} {J : gJ} (h : (gKd Z a).1 = 4) : g_at 34 10 L (.ref v :: .ref a :: S) Z I J = g_at 34 13 L S (Z.1, Z.2.1, Z.2.2.1, va_up Z.2.2.2 a (va_up (Z.2.2.2 a) 0 (some v))) I J := gq_putR e_34_10 h
theorem e_34_13 : g_Pg 34 13 = ga_vret := (congrFun pg_34 13).trans rfl
theorem q_34_13 {L : List Value} {Z : gZ} {I : gI} {J : gJ} : g_at 34 13 L [] Z I J = some (none, Z, I, J) := gq_vret e_34_13
theorem e_35_0 : g_Pg 35 0 = ga_aload 0 1 := (congrFun pg_35 0).trans rfl
theorem q_35_0 {l1 : Value} {x : Nat} {S : List Value} {Z : gZ} {I : gI} {J : gJ} : g_at 35 0 [.ref x, l1] S Z I J = g_at 35 1 [.ref x, l1] (.ref x :: S) Z I J := gq_aload e_35_0 rfl
theorem e_35_1 : g_Pg 35 1 = ga_getI 4 1 4 := (congrFun pg_35 1).trans rfl
theorem q_35_1 {L : List Value} {a : Nat} {S : List Value} {Z : gZ} {I : gI} {J : gJ} (h : (gKd Z a).1 = 4) : g_at 35 1 L (.ref a :: S) Z I J = g_at 35 4 L (.int (I a 1) :: S) Z I J := gq_getI e_35_1 h
theorem e_35_4 : g_Pg 35 4 = ga_push (.int 200) 7 := (congrFun pg_35 4).trans rfl
theorem q_35_4 {L : List Value} {S : List Value} {Z : gZ} {I : gI} {J : gJ} : g_at 35 4 L S Z I J = g_at 35 7 L (.int 200 :: S) Z I J := gq_push e_35_4
theorem e_35_7 : g_Pg 35 7 = ga_cmp (fun x y => decide (y ≤ x)) 30 10 := (congrFun pg_35 7).trans rfl
theorem q_35_7 {L : List Value} {x y : Int32} {S : List Value} {Z : gZ} {I : gI} {J : gJ} : g_at 35 7 L (.int y :: .int x :: S) Z I J = if y ≤ x then g_at 35 30 L S Z I J else g_at 35 10 L S Z I J := gq_cmp e_35_7 rfl
theorem e_35_10 : g_Pg 35 10 = ga_aload 0 11 := (congrFun pg_35 10).trans rfl
theorem q_35_10 {l1 : Value} {x : Nat} {S : List Value} {Z : gZ} {I : gI} {J : gJ} : g_at 35 10 [.ref x, l1] S Z I J = g_at 35 11 [.ref x, l1] (.ref x :: S) Z I J := gq_aload e_35_10 rfl
theorem e_35_11 : g_Pg 35 11 = ga_getR 4 0 14 := (congrFun pg_35 11).trans rfl
theorem q_35_11 {L : List Value} {a : Nat} {S : List Value} {Z : gZ} {I : gI} {J : gJ} (h : (gKd Z a).1 = 4) (h1 : gRs Z a 0 = true) : g_at 35 11 L (.ref a :: S) Z I J = g_at 35 14 L (.ref (gRq Z a 0) :: S) Z I J := gq_getR e_35_11 h h1
theorem e_35_14 : g_Pg 35 14 = ga_aload 0 15 := (congrFun pg_35 14).trans rfl
theorem q_35_14 {l1 : Value} {x : Nat} {S : List Value} {Z : gZ} {I : gI} {J : gJ} : g_at 35 14 [.ref x, l1] S Z I J = g_at 35 15 [.ref x, l1] (.ref x :: S) Z I J := gq_aload e_35_14 rfl
theorem e_35_15 : g_Pg 35 15 = ga_getI 4 1 18 := (congrFun pg_35 15).trans rfl
theorem q_35_15 {L : List Value} {a : Nat} {S : List Value} {Z : gZ} {I : gI} {J : gJ} (h : (gKd Z a).1 = 4) : g_at 35 15 L (.ref a :: S) Z I J = g_at 35 18 L (.int (I a 1) :: S) Z I J := gq_getI e_35_15 h
theorem e_35_18 : g_Pg 35 18 = ga_iload 1 19 := (congrFun pg_35 18).trans rfl
theorem q_35_18 {l0 : Value} {x : Int32} {S : List Value} {Z : gZ} {I : gI} {J : gJ} : g_at 35 18 [l0, .int x] S Z I J = g_at 35 19 [l0, .int x] (.int x :: S) Z I J := gq_iload e_35_18 rfl
theorem e_35_19 : g_Pg 35 19 = ga_iast 20 := (congrFun pg_35 19).trans rfl
theorem q_35_19 {L : List Value} {a : Nat} {i : Int32} {v : Int32} {S : List Value} {Z : gZ} {I : gI} {J : gJ} (h : (gKd Z a).1 = 8) (h0 : 0 ≤ i) (h1 : i.toNatClampNeg < (gKd Z a).2) : g_at 35 19 L (.int v :: .int i :: .ref a :: S) Z I J = g_at 35 20 L S Z (va_up I a (va_up (I a) i.toNatClampNeg v)) J := gq_iast e_35_19 h h0 h1
theorem e_35_20 : g_Pg 35 20 = ga_aload 0 21 := (congrFun pg_35 20).trans rfl
theorem q_35_20 {l1 : Value} {x : Nat} {S : List Value} {Z : gZ} {I : gI} {J : gJ} : g_at 35 20 [.ref x, l1] S Z I J = g_at 35 21 [.ref x, l1] (.ref x :: S) Z I J := gq_aload e_35_20 rfl
theorem e_35_21 : g_Pg 35 21 = ga_dup 22 := (congrFun pg_35 21).trans rfl
theorem q_35_21 {L : List Value} {x : Nat} {S : List Value} {Z : gZ} {I : gI} {J : gJ} : g_at 35 21 L (.ref x :: S) Z I J = g_at 35 22 L (.ref x :: .ref x :: S) Z I J := gq_dup e_35_21
theorem e_35_22 : g_Pg 35 22 = ga_getI 4 1 25 := (congrFun pg_35 22).trans rfl
theorem q_35_22 {L : List Value} {a : Nat} {S : List Value} {Z : gZ} {I : gI} {J : gJ} (h : (gKd Z a).1 = 4) : g_at 35 22 L (.ref a :: S) Z I J = g_at 35 25 L (.int (I a 1) :: S) Z I J := gq_getI e_35_22 h
theorem e_35_25 : g_Pg 35 25 = ga_push (.int 1) 26 := (congrFun pg_35 25).trans rfl
theorem q_35_25 {L : List Value} {S : List Value} {Z : gZ} {I : gI} {J : gJ} : g_at 35 25 L S Z I J = g_at 35 26 L (.int 1 :: S) Z I J := gq_push e_35_25
theorem e_35_26 : g_Pg 35 26 = ga_bin (fun x y => x + y) 27 := (congrFun pg_35 26).trans rfl
theorem q_35_26 {L : List Value} {x y : Int32} {S : List Value} {Z : gZ} {I : gI} {J : gJ} : g_at 35 26 L (.int y :: .int x :: S) Z I J = g_at 35 27 L (.int (x + y) :: S) Z I J := gq_bin e_35_26
theorem e_35_27 : g_Pg 35 27 = ga_putI 4 1 30 := (congrFun pg_35 27).trans rfl
theorem q_35_27 {L : List Value} {a : Nat} {v : Int32} {S : List Value} {Z : gZ} {I : gI} {J : gJ} (h : (gKd Z a).1 = 4) : g_at 35 27 L (.int v :: .ref a :: S) Z I J = g_at 35 30 L S Z (va_up I a (va_up (I a) 1 v)) J := gq_putI e_35_27 h
theorem e_35_30 : g_Pg 35 30 = ga_vret := (congrFun pg_35 30).trans rfl
theorem q_35_30 {L : List Value} {Z : gZ} {I : gI} {J : gJ} : g_at 35 30 L [] Z I J = some (none, Z, I, J) := gq_vret e_35_30
theorem e_36_0 : g_Pg 36 0 = ga_aload 0 1 := (congrFun pg_36 0).trans rfl
theorem q_36_0 {l1 : Value} {x : Nat} {S : List Value} {Z : gZ} {I : gI} {J : gJ} : g_at 36 0 [.ref x, l1] S Z I J = g_at 36 1 [.ref x, l1] (.ref x :: S) Z I J := gq_aload e_36_0 rfl
theorem e_36_1 : g_Pg 36 1 = ga_push (.int 0) 2 := (congrFun pg_36 1).trans rfl
theorem q_36_1 {L : List Value} {S : List Value} {Z : gZ} {I : gI} {J : gJ} : g_at 36 1 L S Z I J = g_at 36 2 L (.int 0 :: S) Z I J := gq_push e_36_1
theorem e_36_2 : g_Pg 36 2 = ga_putI 4 4 5 := (congrFun pg_36 2).trans rfl
theorem q_36_2 {L : List Value} {a : Nat} {v : Int32} {S : List Value} {Z : gZ} {I : gI} {J : gJ} (h : (gKd Z a).1 = 4) : g_at 36 2 L (.int v :: .ref a :: S) Z I J = g_at 36 5 L S Z (va_up I a (va_up (I a) 4 v)) J := gq_putI e_36_2 h
theorem e_36_5 : g_Pg 36 5 = ga_aload 0 6 := (congrFun pg_36 5).trans rfl
theorem q_36_5 {l1 : Value} {x : Nat} {S : List Value} {Z : gZ} {I : gI} {J : gJ} : g_at 36 5 [.ref x, l1] S Z I J = g_at 36 6 [.ref x, l1] (.ref x :: S) Z I J := gq_aload e_36_5 rfl
theorem e_36_6 : g_Pg 36 6 = ga_push (.int 0) 7 := (congrFun pg_36 6).trans rfl
theorem q_36_6 {L : List Value} {S : List Value} {Z : gZ} {I : gI} {J : gJ} : g_at 36 6 L S Z I J = g_at 36 7 L (.int 0 :: S) Z I J := gq_push e_36_6
theorem e_36_7 : g_Pg 36 7 = ga_putI 4 2 10 := (congrFun pg_36 7).trans rfl
theorem q_36_7 {L : List Value} {a : Nat} {v : Int32} {S : List Value} {Z : gZ} {I : gI} {J : gJ} (h : (gKd Z a).1 = 4) : g_at 36 7 L (.int v :: .ref a :: S) Z I J = g_at 36 10 L S Z (va_up I a (va_up (I a) 2 v)) J := gq_putI e_36_7 h
theorem e_36_10 : g_Pg 36 10 = ga_aload 0 11 := (congrFun pg_36 10).trans rfl
theorem q_36_10 {l1 : Value} {x : Nat} {S : List Value} {Z : gZ} {I : gI} {J : gJ} : g_at 36 10 [.ref x, l1] S Z I J = g_at 36 11 [.ref x, l1] (.ref x :: S) Z I J := gq_aload e_36_10 rfl
theorem e_36_11 : g_Pg 36 11 = ga_getI 4 2 14 := (congrFun pg_36 11).trans rfl
theorem q_36_11 {L : List Value} {a : Nat} {S : List Value} {Z : gZ} {I : gI} {J : gJ} (h : (gKd Z a).1 = 4) : g_at 36 11 L (.ref a :: S) Z I J = g_at 36 14 L (.int (I a 2) :: S) Z I J := gq_getI e_36_11 h
theorem e_36_14 : g_Pg 36 14 = ga_push (.int 12) 16 := (congrFun pg_36 14).trans rfl
theorem q_36_14 {L : List Value} {S : List Value} {Z : gZ} {I : gI} {J : gJ} : g_at 36 14 L S Z I J = g_at 36 16 L (.int 12 :: S) Z I J := gq_push e_36_14
theorem e_36_16 : g_Pg 36 16 = ga_cmp (fun x y => decide (y ≤ x)) 77 19 := (congrFun pg_36 16).trans rfl
theorem q_36_16 {L : List Value} {x y : Int32} {S : List Value} {Z : gZ} {I : gI} {J : gJ} : g_at 36 16 L (.int y :: .int x :: S) Z I J = if y ≤ x then g_at 36 77 L S Z I J else g_at 36 19 L S Z I J := gq_cmp e_36_16 rfl
theorem e_36_19 : g_Pg 36 19 = ga_aload 0 20 := (congrFun pg_36 19).trans rfl
theorem q_36_19 {l1 : Value} {x : Nat} {S : List Value} {Z : gZ} {I : gI} {J : gJ} : g_at 36 19 [.ref x, l1] S Z I J = g_at 36 20 [.ref x, l1] (.ref x :: S) Z I J := gq_aload e_36_19 rfl
theorem e_36_20 : g_Pg 36 20 = ga_aload 1 21 := (congrFun pg_36 20).trans rfl
theorem q_36_20 {l0 : Value} {x : Nat} {S : List Value} {Z : gZ} {I : gI} {J : gJ} : g_at 36 20 [l0, .ref x] S Z I J = g_at 36 21 [l0, .ref x] (.ref x :: S) Z I J := gq_aload e_36_20 rfl
theorem e_36_21 : g_Pg 36 21 = ga_callV 4 37 1 24 := (congrFun pg_36 21).trans rfl
theorem q_36_21 {L : List Value} {a0 : Nat} {a1 : Nat} {Z : gZ} {I : gI} {J : gJ} (h : (gKd Z a1).1 = 4) : g_at 36 21 L [.ref a0, .ref a1] Z I J = (g_at 37 0 [.ref a1, .ref a0, .null] [] Z I J).bind (fun r => g_at 36 24 L (r.1.toList ++ []) r.2.1 r.2.2.1 r.2.2.2) := gq_callV e_36_21 rfl rfl h rfl rfl rfl rfl rfl
theorem e_36_24 : g_Pg 36 24 = ga_if (fun x => decide (¬ x = 0)) 32 27 := (congrFun pg_36 24).trans rfl
theorem q_36_24 {L : List Value} {x : Int32} {S : List Value} {Z : gZ} {I : gI} {J : gJ} : g_at 36 24 L (.int x :: S) Z I J = if ¬ x = 0 then g_at 36 32 L S Z I J else g_at 36 27 L S Z I J := gq_if e_36_24 rfl
theorem e_36_27 : g_Pg 36 27 = ga_aload 0 28 := (congrFun pg_36 27).trans rfl
theorem q_36_27 {l1 : Value} {x : Nat} {S : List Value} {Z : gZ} {I : gI} {J : gJ} : g_at 36 27 [.ref x, l1] S Z I J = g_at 36 28 [.ref x, l1] (.ref x :: S) Z I J := gq_aload e_36_27 rfl
theorem e_36_28 : g_Pg 36 28 = ga_getI 4 3 31 := (congrFun pg_36 28).trans rfl
theorem q_36_28 {L : List Value} {a : Nat} {S : List Value} {Z : gZ} {I : gI} {J : gJ} (h : (gKd Z a).1 = 4) : g_at 36 28 L (.ref a :: S) Z I J = g_at 36 31 L (.int (I a 3) :: S) Z I J := gq_getI e_36_28 h
theorem e_36_31 : g_Pg 36 31 = ga_iret := (congrFun pg_36 31).trans rfl
theorem q_36_31 {L : List Value} {x : Int32} {Z : gZ} {I : gI} {J : gJ} : g_at 36 31 L [.int x] Z I J = some (some (.int x), Z, I, J) := gq_iret e_36_31
theorem e_36_32 : g_Pg 36 32 = ga_aload 0 33 := (congrFun pg_36 32).trans rfl
theorem q_36_32 {l1 : Value} {x : Nat} {S : List Value} {Z : gZ} {I : gI} {J : gJ} : g_at 36 32 [.ref x, l1] S Z I J = g_at 36 33 [.ref x, l1] (.ref x :: S) Z I J := gq_aload e_36_32 rfl
theorem e_36_33 : g_Pg 36 33 = ga_dup 34 := (congrFun pg_36 33).trans rfl
theorem q_36_33 {L : List Value} {x : Nat} {S : List Value} {Z : gZ} {I : gI} {J : gJ} : g_at 36 33 L (.ref x :: S) Z I J = g_at 36 34 L (.ref x :: .ref x :: S) Z I J := gq_dup e_36_33
theorem e_36_34 : g_Pg 36 34 = ga_getI 4 2 37 := (congrFun pg_36 34).trans rfl
theorem q_36_34 {L : List Value} {a : Nat} {S : List Value} {Z : gZ} {I : gI} {J : gJ} (h : (gKd Z a).1 = 4) : g_at 36 34 L (.ref a :: S) Z I J = g_at 36 37 L (.int (I a 2) :: S) Z I J := gq_getI e_36_34 h
theorem e_36_37 : g_Pg 36 37 = ga_push (.int 1) 38 := (congrFun pg_36 37).trans rfl
theorem q_36_37 {L : List Value} {S : List Value} {Z : gZ} {I : gI} {J : gJ} : g_at 36 37 L S Z I J = g_at 36 38 L (.int 1 :: S) Z I J := gq_push e_36_37
theorem e_36_38 : g_Pg 36 38 = ga_bin (fun x y => x + y) 39 := (congrFun pg_36 38).trans rfl
theorem q_36_38 {L : List Value} {x y : Int32} {S : List Value} {Z : gZ} {I : gI} {J : gJ} : g_at 36 38 L (.int y :: .int x :: S) Z I J = g_at 36 39 L (.int (x + y) :: S) Z I J := gq_bin e_36_38
theorem e_36_39 : g_Pg 36 39 = ga_putI 4 2 42 := (congrFun pg_36 39).trans rfl
theorem q_36_39 {L : List Value} {a : Nat} {v : Int32} {S : List Value} {Z : gZ} {I : gI} {J : gJ} (h : (gKd Z a).1 = 4) : g_at 36 39 L (.int v :: .ref a :: S) Z I J = g_at 36 42 L S Z (va_up I a (va_up (I a) 2 v)) J := gq_putI e_36_39 h
theorem e_36_42 : g_Pg 36 42 = ga_aload 0 43 := (congrFun pg_36 42).trans rfl
theorem q_36_42 {l1 : Value} {x : Nat} {S : List Value} {Z : gZ} {I : gI} {J : gJ} : g_at 36 42 [.ref x, l1] S Z I J = g_at 36 43 [.ref x, l1] (.ref x :: S) Z I J := gq_aload e_36_42 rfl
theorem e_36_43 : g_Pg 36 43 = ga_callV 4 42 0 46 := (congrFun pg_36 43).trans rfl
theorem q_36_43 {L : List Value} {a0 : Nat} {Z : gZ} {I : gI} {J : gJ} (h : (gKd Z a0).1 = 4) : g_at 36 43 L [.ref a0] Z I J = (g_at 42 0 [.ref a0] [] Z I J).bind (fun r => g_at 36 46 L (r.1.toList ++ []) r.2.1 r.2.2.1 r.2.2.2) := gq_callV e_36_43 rfl rfl h rfl rfl rfl rfl rfl
theorem e_36_46 : g_Pg 36 46 = ga_aload 0 47 := (congrFun pg_36 46).trans rfl
theorem q_36_46 {l1 : Value} {x : Nat} {S : List Value} {Z : gZ} {I : gI} {J : gJ} : g_at 36 46 [.ref x, l1] S Z I J = g_at 36 47 [.ref x, l1] (.ref x :: S) Z I J := gq_aload e_36_46 rfl
theorem e_36_47 : g_Pg 36 47 = ga_getI 4 3 50 := (congrFun pg_36 47).trans rfl
theorem q_36_47 {L : List Value} {a : Nat} {S : List Value} {Z : gZ} {I : gI} {J : gJ} (h : (gKd Z a).1 = 4) : g_at 36 47 L (.ref a :: S) Z I J = g_at 36 50 L (.int (I a 3) :: S) Z I J := gq_getI e_36_47 h
theorem e_36_50 : g_Pg 36 50 = ga_aload 0 51 := (congrFun pg_36 50).trans rfl
theorem q_36_50 {l1 : Value} {x : Nat} {S : List Value} {Z : gZ} {I : gI} {J : gJ} : g_at 36 50 [.ref x, l1] S Z I J = g_at 36 51 [.ref x, l1] (.ref x :: S) Z I J := gq_aload e_36_50 rfl
theorem e_36_51 : g_Pg 36 51 = ga_getI 4 1 54 := (congrFun pg_36 51).trans rfl
theorem q_36_51 {L : List Value} {a : Nat} {S : List Value} {Z : gZ} {I : gI} {J : gJ} (h : (gKd Z a).1 = 4) : g_at 36 51 L (.ref a :: S) Z I J = g_at 36 54 L (.int (I a 1) :: S) Z I J := gq_getI e_36_51 h
theorem e_36_54 : g_Pg 36 54 = ga_cmp (fun x y => decide (¬ x = y)) 59 57 := (congrFun pg_36 54).trans rfl
theorem q_36_54 {L : List Value} {x y : Int32} {S : List Value} {Z : gZ} {I : gI} {J : gJ} : g_at 36 54 L (.int y :: .int x :: S) Z I J = if ¬ x = y then g_at 36 59 L S Z I J else g_at 36 57 L S Z I J := gq_cmp e_36_54 rfl
theorem e_36_57 : g_Pg 36 57 = ga_push (.int (-1)) 58 := (congrFun pg_36 57).trans rfl
theorem q_36_57 {L : List Value} {S : List Value} {Z : gZ} {I : gI} {J : gJ} : g_at 36 57 L S Z I J = g_at 36 58 L (.int (-1) :: S) Z I J := gq_push e_36_57
theorem e_36_58 : g_Pg 36 58 = ga_iret := (congrFun pg_36 58).trans rfl
theorem q_36_58 {L : List Value} {x : Int32} {Z : gZ} {I : gI} {J : gJ} : g_at 36 58 L [.int x] Z I J = some (some (.int x), Z, I, J) := gq_iret e_36_58
theorem e_36_59 : g_Pg 36 59 = ga_aload 0 60 := (congrFun pg_36 59).trans rfl
theorem q_36_59 {l1 : Value} {x : Nat} {S : List Value} {Z : gZ} {I : gI} {J : gJ} : g_at 36 59 [.ref x, l1] S Z I J = g_at 36 60 [.ref x, l1] (.ref x :: S) Z I J := gq_aload e_36_59 rfl
theorem e_36_60 : g_Pg 36 60 = ga_aload 0 61 := (congrFun pg_36 60).trans rfl
theorem q_36_60 {l1 : Value} {x : Nat} {S : List Value} {Z : gZ} {I : gI} {J : gJ} : g_at 36 60 [.ref x, l1] S Z I J = g_at 36 61 [.ref x, l1] (.ref x :: S) Z I J := gq_aload e_36_60 rfl
theorem e_36_61 : g_Pg 36 61 = ga_getI 4 3 64 := (congrFun pg_36 61).trans rfl
theorem q_36_61 {L : List Value} {a : Nat} {S : List Value} {Z : gZ} {I : gI} {J : gJ} (h : (gKd Z a).1 = 4) : g_at 36 61 L (.ref a :: S) Z I J = g_at 36 64 L (.int (I a 3) :: S) Z I J := gq_getI e_36_61 h
theorem e_36_64 : g_Pg 36 64 = ga_callV 4 49 1 67 := (congrFun pg_36 64).trans rfl
theorem q_36_64 {L : List Value} {a0 : Int32} {a1 : Nat} {Z : gZ} {I : gI} {J : gJ} (h : (gKd Z a1).1 = 4) : g_at 36 64 L [.int a0, .ref a1] Z I J = (g_at 49 0 [.ref a1, .int a0] [] Z I J).bind (fun r => g_at 36 67 L (r.1.toList ++ []) r.2.1 r.2.2.1 r.2.2.2) := gq_callV e_36_64 rfl rfl h rfl rfl rfl rfl rfl
theorem e_36_67 : g_Pg 36 67 = ga_push (.int 59) 69 := (congrFun pg_36 67).trans rfl
theorem q_36_67 {L : List Value} {S : List Value} {Z : gZ} {I : gI} {J : gJ} : g_at 36 67 L S Z I J = g_at 36 69 L (.int 59 :: S) Z I J := gq_push e_36_67
theorem e_36_69 : g_Pg 36 69 = ga_cmp (fun x y => decide (x = y)) 10 72 := (congrFun pg_36 69).trans rfl
theorem q_36_69 {L : List Value} {x y : Int32} {S : List Value} {Z : gZ} {I : gI} {J : gJ} : g_at 36 69 L (.int y :: .int x :: S) Z I J = if x = y then g_at 36 10 L S Z I J else g_at 36 72 L S Z I J := gq_cmp e_36_69 rfl
theorem e_36_72 : g_Pg 36 72 = ga_aload 0 73 := (congrFun pg_36 72).trans rfl
theorem q_36_72 {l1 : Value} {x : Nat} {S : List Value} {Z : gZ} {I : gI} {J : gJ} : g_at 36 72 [.ref x, l1] S Z I J = g_at 36 73 [.ref x, l1] (.ref x :: S) Z I J := gq_aload e_36_72 rfl
theorem e_36_73 : g_Pg 36 73 = ga_getI 4 3 76 := (congrFun pg_36 73).trans rfl
theorem q_36_73 {L : List Value} {a : Nat} {S : List Value} {Z : gZ} {I : gI} {J : gJ} (h : (gKd Z a).1 = 4) : g_at 36 73 L (.ref a :: S) Z I J = g_at 36 76 L (.int (I a 3) :: S) Z I J := gq_getI e_36_73 h
theorem e_36_76 : g_Pg 36 76 = ga_iret := (congrFun pg_36 76).trans rfl
theorem q_36_76 {L : List Value} {x : Int32} {Z : gZ} {I : gI} {J : gJ} : g_at 36 76 L [.int x] Z I J = some (some (.int x), Z, I, J) := gq_iret e_36_76
theorem e_36_77 : g_Pg 36 77 = ga_aload 0 78 := (congrFun pg_36 77).trans rfl
theorem q_36_77 {l1 : Value} {x : Nat} {S : List Value} {Z : gZ} {I : gI} {J : gJ} : g_at 36 77 [.ref x, l1] S Z I J = g_at 36 78 [.ref x, l1] (.ref x :: S) Z I J := gq_aload e_36_77 rfl
theorem e_36_78 : g_Pg 36 78 = ga_getI 4 3 81 := (congrFun pg_36 78).trans rfl
theorem q_36_78 {L : List Value} {a : Nat} {S : List Value} {Z : gZ} {I : gI} {J : gJ} (h : (gKd Z a).1 = 4) : g_at 36 78 L (.ref a :: S) Z I J = g_at 36 81 L (.int (I a 3) :: S) Z I J := gq_getI e_36_78 h
theorem e_36_81 : g_Pg 36 81 = ga_iret := (congrFun pg_36 81).trans rfl
theorem q_36_81 {L : List Value} {x : Int32} {Z : gZ} {I : gI} {J : gJ} : g_at 36 81 L [.int x] Z I J = some (some (.int x), Z, I, J) := gq_iret e_36_81
theorem e_37_0 : g_Pg 37 0 = ga_aload 0 1 := (congrFun pg_37 0).trans rfl
theorem q_37_0 {l1 l2 : Value} {x : Nat} {S : List Value} {Z : gZ} {I : gI} {J : gJ} : g_at 37 0 [.ref x, l1, l2] S Z I J = g_at 37 1 [.ref x, l1, l2] (.ref x :: S) Z I J := gq_aload e_37_0 rfl
theorem e_37_1 : g_Pg 37 1 = ga_callV 4 42 0 4 := (congrFun pg_37 1).trans rfl
theorem q_37_1 {L : List Value} {a0 : Nat} {Z : gZ} {I : gI} {J : gJ} (h : (gKd Z a0).1 = 4) : g_at 37 1 L [.ref a0] Z I J = (g_at 42 0 [.ref a0] [] Z I J).bind (fun r => g_at 37 4 L (r.1.toList ++ []) r.2.1 r.2.2.1 r.2.2.2) := gq_callV e_37_1 rfl rfl h rfl rfl rfl rfl rfl
theorem e_37_4 : g_Pg 37 4 = ga_aload 0 5 := (congrFun pg_37 4).trans rfl
theorem q_37_4 {l1 l2 : Value} {x : Nat} {S : List Value} {Z : gZ} {I : gI} {J : gJ} : g_at 37 4 [.ref x, l1, l2] S Z I J = g_at 37 5 [.ref x, l1, l2] (.ref x :: S) Z I J := gq_aload e_37_4 rfl
theorem e_37_5 : g_Pg 37 5 = ga_callV 4 44 0 8 := (congrFun pg_37 5).trans rfl
theorem q_37_5 {L : List Value} {a0 : Nat} {Z : gZ} {I : gI} {J : gJ} (h : (gKd Z a0).1 = 4) : g_at 37 5 L [.ref a0] Z I J = (g_at 44 0 [.ref a0, .null] [] Z I J).bind (fun r => g_at 37 8 L (r.1.toList ++ []) r.2.1 r.2.2.1 r.2.2.2) := gq_callV e_37_5 rfl rfl h rfl rfl rfl rfl rfl
theorem e_37_8 : g_Pg 37 8 = ga_istore 2 9 := (congrFun pg_37 8).trans rfl
theorem q_37_8 {l0 l1 l2 : Value} {x : Int32} {S : List Value} {Z : gZ} {I : gI} {J : gJ} (h : gN1 l1 = true) : g_at 37 8 [l0, l1, l2] (.int x :: S) Z I J = g_at 37 9 [l0, l1, .int x] S Z I J := gq_istore e_37_8 h rfl rfl
theorem e_37_9 : g_Pg 37 9 = ga_iload 2 10 := (congrFun pg_37 9).trans rfl
theorem q_37_9 {l0 l1 : Value} {x : Int32} {S : List Value} {Z : gZ} {I : gI} {J : gJ} : g_at 37 9 [l0, l1, .int x] S Z I J = g_at 37 10 [l0, l1, .int x] (.int x :: S) Z I J := gq_iload e_37_9 rfl
theorem e_37_10 : g_Pg 37 10 = ga_push (.int (-1)) 11 := (congrFun pg_37 10).trans rfl
theorem q_37_10 {L : List Value} {S : List Value} {Z : gZ} {I : gI} {J : gJ} : g_at 37 10 L S Z I J = g_at 37 11 L (.int (-1) :: S) Z I J := gq_push e_37_10
theorem e_37_11 : g_Pg 37 11 = ga_cmp (fun x y => decide (¬ x = y)) 16 14 := (congrFun pg_37 11).trans rfl
theorem q_37_11 {L : List Value} {x y : Int32} {S : List Value} {Z : gZ} {I : gI} {J : gJ} : g_at 37 11 L (.int y :: .int x :: S) Z I J = if ¬ x = y then g_at 37 16 L S Z I J else g_at 37 14 L S Z I J := gq_cmp e_37_11 rfl
theorem e_37_14 : g_Pg 37 14 = ga_push (.int 0) 15 := (congrFun pg_37 14).trans rfl
theorem q_37_14 {L : List Value} {S : List Value} {Z : gZ} {I : gI} {J : gJ} : g_at 37 14 L S Z I J = g_at 37 15 L (.int 0 :: S) Z I J := gq_push e_37_14
theorem e_37_15 : g_Pg 37 15 = ga_zret := (congrFun pg_37 15).trans rfl
theorem q_37_15 {L : List Value} {x : Int32} {Z : gZ} {I : gI} {J : gJ} (h : gB01 x = true) : g_at 37 15 L [.int x] Z I J = some (some (.int x), Z, I, J) := gq_zret e_37_15 h
theorem e_37_16 : g_Pg 37 16 = ga_iload 2 17 := (congrFun pg_37 16).trans rfl
theorem q_37_16 {l0 l1 : Value} {x : Int32} {S : List Value} {Z : gZ} {I : gI} {J : gJ} : g_at 37 16 [l0, l1, .int x] S Z I J = g_at 37 17 [l0, l1, .int x] (.int x :: S) Z I J := gq_iload e_37_16 rfl
theorem e_37_17 : g_Pg 37 17 = ga_push (.int 7) 19 := (congrFun pg_37 17).trans rfl
theorem q_37_17 {L : List Value} {S : List Value} {Z : gZ} {I : gI} {J : gJ} : g_at 37 17 L S Z I J = g_at 37 19 L (.int 7 :: S) Z I J := gq_push e_37_17
theorem e_37_19 : g_Pg 37 19 = ga_cmp (fun x y => decide (x < y)) 32 22 := (congrFun pg_37 19).trans rfl
theorem q_37_19 {L : List Value} {x y : Int32} {S : List Value} {Z : gZ} {I : gI} {J : gJ} : g_at 37 19 L (.int y :: .int x :: S) Z I J = if x < y then g_at 37 32 L S Z I J else g_at 37 22 L S Z I J := gq_cmp e_37_19 rfl
theorem e_37_22 : g_Pg 37 22 = ga_aload 1 23 := (congrFun pg_37 22).trans rfl
theorem q_37_22 {l0 l2 : Value} {x : Nat} {S : List Value} {Z : gZ} {I : gI} {J : gJ} : g_at 37 22 [l0, .ref x, l2] S Z I J = g_at 37 23 [l0, .ref x, l2] (.ref x :: S) Z I J := gq_aload e_37_22 rfl
theorem e_37_23 : g_Pg 37 23 = ga_iload 2 24 := (congrFun pg_37 23).trans rfl
theorem q_37_23 {l0 l1 : Value} {x : Int32} {S : List Value} {Z : gZ} {I : gI} {J : gJ} : g_at 37 23 [l0, l1, .int x] S Z I J = g_at 37 24 [l0, l1, .int x] (.int x :: S) Z I J := gq_iload e_37_23 rfl
theorem e_37_24 : g_Pg 37 24 = ga_push (.int 7) 26 := (congrFun pg_37 24).trans rfl
theorem q_37_24 {L : List Value} {S : List Value} {Z : gZ} {I : gI} {J : gJ} : g_at 37 24 L S Z I J = g_at 37 26 L (.int 7 :: S) Z I J := gq_push e_37_24
theorem e_37_26 : g_Pg 37 26 = ga_bin (fun x y => x - y) 27 := (congrFun pg_37 26).trans rfl
theorem q_37_26 {L : List Value} {x y : Int32} {S : List Value} {Z : gZ} {I : gI} {J : gJ} : g_at 37 26 L (.int y :: .int x :: S) Z I J = g_at 37 27 L (.int (x - y) :: S) Z I J := gq_bin e_37_26
theorem e_37_27 : g_Pg 37 27 = ga_putI 0 5 30 := (congrFun pg_37 27).trans rfl
theorem q_37_27 {L : List Value} {a : Nat} {v : Int32} {S : List Value} {Z : gZ} {I : gI} {J : gJ} (h : (gKd Z a).1 = 0) : g_at 37 27 L (.int v :: .ref a :: S) Z I J = g_at 37 30 L S Z (va_up I a (va_up (I a) 5 v)) J := gq_putI e_37_27 h
theorem e_37_30 : g_Pg 37 30 = ga_push (.int 1) 31 := (congrFun pg_37 30).trans rfl
theorem q_37_30 {L : List Value} {S : List Value} {Z : gZ} {I : gI} {J : gJ} : g_at 37 30 L S Z I J = g_at 37 31 L (.int 1 :: S) Z I J := gq_push e_37_30
theorem e_37_31 : g_Pg 37 31 = ga_zret := (congrFun pg_37 31).trans rfl
theorem q_37_31 {L : List Value} {x : Int32} {Z : gZ} {I : gI} {J : gJ} (h : gB01 x = true) : g_at 37 31 L [.int x] Z I J = some (some (.int x), Z, I, J) := gq_zret e_37_31 h
theorem e_37_32 : g_Pg 37 32 = ga_iload 2 33 := (congrFun pg_37 32).trans rfl
theorem q_37_32 {l0 l1 : Value} {x : Int32} {S : List Value} {Z : gZ} {I : gI} {J : gJ} : g_at 37 32 [l0, l1, .int x] S Z I J = g_at 37 33 [l0, l1, .int x] (.int x :: S) Z I J := gq_iload e_37_32 rfl
theorem e_37_33 : g_Pg 37 33 = ga_push (.int 3) 34 := (congrFun pg_37 33).trans rfl
theorem q_37_33 {L : List Value} {S : List Value} {Z : gZ} {I : gI} {J : gJ} : g_at 37 33 L S Z I J = g_at 37 34 L (.int 3 :: S) Z I J := gq_push e_37_33
theorem e_37_34 : g_Pg 37 34 = ga_cmp (fun x y => decide (x < y)) 46 37 := (congrFun pg_37 34).trans rfl
theorem q_37_34 {L : List Value} {x y : Int32} {S : List Value} {Z : gZ} {I : gI} {J : gJ} : g_at 37 34 L (.int y :: .int x :: S) Z I J = if x < y then g_at 37 46 L S Z I J else g_at 37 37 L S Z I J := gq_cmp e_37_34 rfl
theorem e_37_37 : g_Pg 37 37 = ga_aload 0 38 := (congrFun pg_37 37).trans rfl
theorem q_37_37 {l1 l2 : Value} {x : Nat} {S : List Value} {Z : gZ} {I : gI} {J : gJ} : g_at 37 37 [.ref x, l1, l2] S Z I J = g_at 37 38 [.ref x, l1, l2] (.ref x :: S) Z I J := gq_aload e_37_37 rfl
theorem e_37_38 : g_Pg 37 38 = ga_aload 1 39 := (congrFun pg_37 38).trans rfl
theorem q_37_38 {l0 l2 : Value} {x : Nat} {S : List Value} {Z : gZ} {I : gI} {J : gJ} : g_at 37 38 [l0, .ref x, l2] S Z I J = g_at 37 39 [l0, .ref x, l2] (.ref x :: S) Z I J := gq_aload e_37_38 rfl
theorem e_37_39 : g_Pg 37 39 = ga_iload 2 40 := (congrFun pg_37 39).trans rfl
theorem q_37_39 {l0 l1 : Value} {x : Int32} {S : List Value} {Z : gZ} {I : gI} {J : gJ} : g_at 37 39 [l0, l1, .int x] S Z I J = g_at 37 40 [l0, l1, .int x] (.int x :: S) Z I J := gq_iload e_37_39 rfl
theorem e_37_40 : g_Pg 37 40 = ga_push (.int 3) 41 := (congrFun pg_37 40).trans rfl
theorem q_37_40 {L : List Value} {S : List Value} {Z : gZ} {I : gI} {J : gJ} : g_at 37 40 L S Z I J = g_at 37 41 L (.int 3 :: S) Z I J := gq_push e_37_40
theorem e_37_41 : g_Pg 37 41 = ga_bin (fun x y => x - y) 42 := (congrFun pg_37 41).trans rfl
theorem q_37_41 {L : List Value} {x y : Int32} {S : List Value} {Z : gZ} {I : gI} {J : gJ} : g_at 37 41 L (.int y :: .int x :: S) Z I J = g_at 37 42 L (.int (x - y) :: S) Z I J := gq_bin e_37_41
theorem e_37_42 : g_Pg 37 42 = ga_callV 4 41 2 45 := (congrFun pg_37 42).trans rfl
theorem q_37_42 {L : List Value} {a0 : Int32} {a1 : Nat} {a2 : Nat} {Z : gZ} {I : gI} {J : gJ} (h : (gKd Z a2).1 = 4) : g_at 37 42 L [.int a0, .ref a1, .ref a2] Z I J = (g_at 41 0 [.ref a2, .ref a1, .int a0, .null] [] Z I J).bind (fun r => g_at 37 45 L (r.1.toList ++ []) r.2.1 r.2.2.1 r.2.2.2) := gq_callV e_37_42 rfl rfl h rfl rfl rfl rfl rfl
theorem e_37_45 : g_Pg 37 45 = ga_zret := (congrFun pg_37 45).trans rfl
theorem q_37_45 {L : List Value} {x : Int32} {Z : gZ} {I : gI} {J : gJ} (h : gB01 x = true) : g_at 37 45 L [.int x] Z I J = some (some (.int x), Z, I, J) := gq_zret e_37_45 h
theorem e_37_46 : g_Pg 37 46 = ga_iload 2 47 := (congrFun pg_37 46).trans rfl
theorem q_37_46 {l0 l1 : Value} {x : Int32} {S : List Value} {Z : gZ} {I : gI} {J : gJ} : g_at 37 46 [l0, l1, .int x] S Z I J = g_at 37 47 [l0, l1, .int x] (.int x :: S) Z I J := gq_iload e_37_46 rfl
theorem e_37_47 : g_Pg 37 47 = ga_switch 0 [72, 78, 84] 90 := (congrFun pg_37 47).trans rfl
theorem q_37_47 {L : List Value} {x : Int32} {S : List Value} {Z : gZ} {I : gI} {J : gJ} : g_at 37 47 L (.int x :: S) Z I J = if x = 0 then g_at 37 72 L S Z I J else if x = 1 then g_at 37 78 L S Z I J else if x = 2 then g_at 37 84 L S Z I J else g_at 37 90 L S Z I J := (gq_switch e_37_47).trans (gsw_cons (F := fun q => g_at 37 q L S Z I J) (lo := 0) (lo' := 1) (v := 0) rfl rfl (gsw_cons (F := fun q => g_at 37 q L S Z I J) (lo := 1) (lo' := 2) (v := 1) rfl rfl (gsw_cons (F := fun q => g_at 37 q L S Z I J) (lo := 2) (lo' := 3) (v := 2) rfl rfl rfl)))
theorem e_37_72 : g_Pg 37 72 = ga_aload 0 73 := (congrFun pg_37 72).trans rfl
theorem q_37_72 {l1 l2 : Value} {x : Nat} {S : List Value} {Z : gZ} {I : gI} {J : gJ} : g_at 37 72 [.ref x, l1, l2] S Z I J = g_at 37 73 [.ref x, l1, l2] (.ref x :: S) Z I J := gq_aload e_37_72 rfl
theorem e_37_73 : g_Pg 37 73 = ga_aload 1 74 := (congrFun pg_37 73).trans rfl
theorem q_37_73 {l0 l2 : Value} {x : Nat} {S : List Value} {Z : gZ} {I : gI} {J : gJ} : g_at 37 73 [l0, .ref x, l2] S Z I J = g_at 37 74 [l0, .ref x, l2] (.ref x :: S) Z I J := gq_aload e_37_73 rfl
theorem e_37_74 : g_Pg 37 74 = ga_callV 4 38 1 77 := (congrFun pg_37 74).trans rfl
theorem q_37_74 {L : List Value} {a0 : Nat} {a1 : Nat} {Z : gZ} {I : gI} {J : gJ} (h : (gKd Z a1).1 = 4) : g_at 37 74 L [.ref a0, .ref a1] Z I J = (g_at 38 0 [.ref a1, .ref a0] [] Z I J).bind (fun r => g_at 37 77 L (r.1.toList ++ []) r.2.1 r.2.2.1 r.2.2.2) := gq_callV e_37_74 rfl rfl h rfl rfl rfl rfl rfl
theorem e_37_77 : g_Pg 37 77 = ga_zret := (congrFun pg_37 77).trans rfl
theorem q_37_77 {L : List Value} {x : Int32} {Z : gZ} {I : gI} {J : gJ} (h : gB01 x = true) : g_at 37 77 L [.int x] Z I J = some (some (.int x), Z, I, J) := gq_zret e_37_77 h
theorem e_37_78 : g_Pg 37 78 = ga_aload 0 79 := (congrFun pg_37 78).trans rfl
theorem q_37_78 {l1 l2 : Value} {x : Nat} {S : List Value} {Z : gZ} {I : gI} {J : gJ} : g_at 37 78 [.ref x, l1, l2] S Z I J = g_at 37 79 [.ref x, l1, l2] (.ref x :: S) Z I J := gq_aload e_37_78 rfl
theorem e_37_79 : g_Pg 37 79 = ga_aload 1 80 := (congrFun pg_37 79).trans rfl
theorem q_37_79 {l0 l2 : Value} {x : Nat} {S : List Value} {Z : gZ} {I : gI} {J : gJ} : g_at 37 79 [l0, .ref x, l2] S Z I J = g_at 37 80 [l0, .ref x, l2] (.ref x :: S) Z I J := gq_aload e_37_79 rfl
theorem e_37_80 : g_Pg 37 80 = ga_callV 4 39 1 83 := (congrFun pg_37 80).trans rfl
theorem q_37_80 {L : List Value} {a0 : Nat} {a1 : Nat} {Z : gZ} {I : gI} {J : gJ} (h : (gKd Z a1).1 = 4) : g_at 37 80 L [.ref a0, .ref a1] Z I J = (g_at 39 0 [.ref a1, .ref a0, .null, .null] [] Z I J).bind (fun r => g_at 37 83 L (r.1.toList ++ []) r.2.1 r.2.2.1 r.2.2.2) := gq_callV e_37_80 rfl rfl h rfl rfl rfl rfl rfl
theorem e_37_83 : g_Pg 37 83 = ga_zret := (congrFun pg_37 83).trans rfl
theorem q_37_83 {L : List Value} {x : Int32} {Z : gZ} {I : gI} {J : gJ} (h : gB01 x = true) : g_at 37 83 L [.int x] Z I J = some (some (.int x), Z, I, J) := gq_zret e_37_83 h
theorem e_37_84 : g_Pg 37 84 = ga_aload 0 85 := (congrFun pg_37 84).trans rfl
theorem q_37_84 {l1 l2 : Value} {x : Nat} {S : List Value} {Z : gZ} {I : gI} {J : gJ} : g_at 37 84 [.ref x, l1, l2] S Z I J = g_at 37 85 [.ref x, l1, l2] (.ref x :: S) Z I J := gq_aload e_37_84 rfl
theorem e_37_85 : g_Pg 37 85 = ga_aload 1 86 := (congrFun pg_37 85).trans rfl
theorem q_37_85 {l0 l2 : Value} {x : Nat} {S : List Value} {Z : gZ} {I : gI} {J : gJ} : g_at 37 85 [l0, .ref x, l2] S Z I J = g_at 37 86 [l0, .ref x, l2] (.ref x :: S) Z I J := gq_aload e_37_85 rfl
theorem e_37_86 : g_Pg 37 86 = ga_callV 4 40 1 89 := (congrFun pg_37 86).trans rfl
theorem q_37_86 {L : List Value} {a0 : Nat} {a1 : Nat} {Z : gZ} {I : gI} {J : gJ} (h : (gKd Z a1).1 = 4) : g_at 37 86 L [.ref a0, .ref a1] Z I J = (g_at 40 0 [.ref a1, .ref a0] [] Z I J).bind (fun r => g_at 37 89 L (r.1.toList ++ []) r.2.1 r.2.2.1 r.2.2.2) := gq_callV e_37_86 rfl rfl h rfl rfl rfl rfl rfl
theorem e_37_89 : g_Pg 37 89 = ga_zret := (congrFun pg_37 89).trans rfl
theorem q_37_89 {L : List Value} {x : Int32} {Z : gZ} {I : gI} {J : gJ} (h : gB01 x = true) : g_at 37 89 L [.int x] Z I J = some (some (.int x), Z, I, J) := gq_zret e_37_89 h
theorem e_37_90 : g_Pg 37 90 = ga_push (.int 0) 91 := (congrFun pg_37 90).trans rfl
theorem q_37_90 {L : List Value} {S : List Value} {Z : gZ} {I : gI} {J : gJ} : g_at 37 90 L S Z I J = g_at 37 91 L (.int 0 :: S) Z I J := gq_push e_37_90
theorem e_37_91 : g_Pg 37 91 = ga_zret := (congrFun pg_37 91).trans rfl
theorem q_37_91 {L : List Value} {x : Int32} {Z : gZ} {I : gI} {J : gJ} (h : gB01 x = true) : g_at 37 91 L [.int x] Z I J = some (some (.int x), Z, I, J) := gq_zret e_37_91 h
theorem e_38_0 : g_Pg 38 0 = ga_aload 0 1 := (congrFun pg_38 0).trans rfl
theorem q_38_0 {l1 : Value} {x : Nat} {S : List Value} {Z : gZ} {I : gI} {J : gJ} : g_at 38 0 [.ref x, l1] S Z I J = g_at 38 1 [.ref x, l1] (.ref x :: S) Z I J := gq_aload e_38_0 rfl
theorem e_38_1 : g_Pg 38 1 = ga_push (.int 2) 2 := (congrFun pg_38 1).trans rfl
theorem q_38_1 {L : List Value} {S : List Value} {Z : gZ} {I : gI} {J : gJ} : g_at 38 1 L S Z I J = g_at 38 2 L (.int 2 :: S) Z I J := gq_push e_38_1
theorem e_38_2 : g_Pg 38 2 = ga_push (.int 10) 4 := (congrFun pg_38 2).trans rfl
theorem q_38_2 {L : List Value} {S : List Value} {Z : gZ} {I : gI} {J : gJ} : g_at 38 2 L S Z I J = g_at 38 4 L (.int 10 :: S) Z I J := gq_push e_38_2
theorem e_38_4 : g_Pg 38 4 = ga_callV 4 43 2 7 := (congrFun pg_38 4).trans rfl
theorem q_38_4 {L : List Value} {a0 : Int32} {a1 : Int32} {a2 : Nat} {Z : gZ} {I : gI} {J : gJ} (h : (gKd Z a2).1 = 4) : g_at 38 4 L [.int a0, .int a1, .ref a2] Z I J = (g_at 43 0 [.ref a2, .int a1, .int a0, .null] [] Z I J).bind (fun r => g_at 38 7 L (r.1.toList ++ []) r.2.1 r.2.2.1 r.2.2.2) := gq_callV e_38_4 rfl rfl h rfl rfl rfl rfl rfl
theorem e_38_7 : g_Pg 38 7 = ga_if (fun x => decide (¬ x = 0)) 12 10 := (congrFun pg_38 7).trans rfl
theorem q_38_7 {L : List Value} {x : Int32} {S : List Value} {Z : gZ} {I : gI} {J : gJ} : g_at 38 7 L (.int x :: S) Z I J = if ¬ x = 0 then g_at 38 12 L S Z I J else g_at 38 10 L S Z I J := gq_if e_38_7 rfl
theorem e_38_10 : g_Pg 38 10 = ga_push (.int 0) 11 := (congrFun pg_38 10).trans rfl
theorem q_38_10 {L : List Value} {S : List Value} {Z : gZ} {I : gI} {J : gJ} : g_at 38 10 L S Z I J = g_at 38 11 L (.int 0 :: S) Z I J := gq_push e_38_10
theorem e_38_11 : g_Pg 38 11 = ga_zret := (congrFun pg_38 11).trans rfl
theorem q_38_11 {L : List Value} {x : Int32} {Z : gZ} {I : gI} {J : gJ} (h : gB01 x = true) : g_at 38 11 L [.int x] Z I J = some (some (.int x), Z, I, J) := gq_zret e_38_11 h
theorem e_38_12 : g_Pg 38 12 = ga_aload 1 13 := (congrFun pg_38 12).trans rfl
theorem q_38_12 {l0 : Value} {x : Nat} {S : List Value} {Z : gZ} {I : gI} {J : gJ} : g_at 38 12 [l0, .ref x] S Z I J = g_at 38 13 [l0, .ref x] (.ref x :: S) Z I J := gq_aload e_38_12 rfl
theorem e_38_13 : g_Pg 38 13 = ga_aload 0 14 := (congrFun pg_38 13).trans rfl
theorem q_38_13 {l1 : Value} {x : Nat} {S : List Value} {Z : gZ} {I : gI} {J : gJ} : g_at 38 13 [.ref x, l1] S Z I J = g_at 38 14 [.ref x, l1] (.ref x :: S) Z I J := gq_aload e_38_13 rfl
theorem e_38_14 : g_Pg 38 14 = ga_getI 4 5 17 := (congrFun pg_38 14).trans rfl
theorem q_38_14 {L : List Value} {a : Nat} {S : List Value} {Z : gZ} {I : gI} {J : gJ} (h : (gKd Z a).1 = 4) : g_at 38 14 L (.ref a :: S) Z I J = g_at 38 17 L (.int (I a 5) :: S) Z I J := gq_getI e_38_14 h
theorem e_38_17 : g_Pg 38 17 = ga_callV 0 1 1 20 := (congrFun pg_38 17).trans rfl
theorem q_38_17 {L : List Value} {a0 : Int32} {a1 : Nat} {Z : gZ} {I : gI} {J : gJ} (h : (gKd Z a1).1 = 0) : g_at 38 17 L [.int a0, .ref a1] Z I J = (g_at 1 0 [.ref a1, .int a0] [] Z I J).bind (fun r => g_at 38 20 L (r.1.toList ++ []) r.2.1 r.2.2.1 r.2.2.2) := gq_callV e_38_17 rfl rfl h rfl rfl rfl rfl rfl
theorem e_38_20 : g_Pg 38 20 = ga_push (.int 1) 21 := (congrFun pg_38 20).trans rfl
theorem q_38_20 {L : List Value} {S : List Value} {Z : gZ} {I : gI} {J : gJ} : g_at 38 20 L S Z I J = g_at 38 21 L (.int 1 :: S) Z I J := gq_push e_38_20
theorem e_38_21 : g_Pg 38 21 = ga_zret := (congrFun pg_38 21).trans rfl
theorem q_38_21 {L : List Value} {x : Int32} {Z : gZ} {I : gI} {J : gJ} (h : gB01 x = true) : g_at 38 21 L [.int x] Z I J = some (some (.int x), Z, I, J) := gq_zret e_38_21 h
theorem e_39_0 : g_Pg 39 0 = ga_aload 0 1 := (congrFun pg_39 0).trans rfl
theorem q_39_0 {l1 l2 l3 : Value} {x : Nat} {S : List Value} {Z : gZ} {I : gI} {J : gJ} : g_at 39 0 [.ref x, l1, l2, l3] S Z I J = g_at 39 1 [.ref x, l1, l2, l3] (.ref x :: S) Z I J := gq_aload e_39_0 rfl
theorem e_39_1 : g_Pg 39 1 = ga_push (.int 0) 2 := (congrFun pg_39 1).trans rfl
theorem q_39_1 {L : List Value} {S : List Value} {Z : gZ} {I : gI} {J : gJ} : g_at 39 1 L S Z I J = g_at 39 2 L (.int 0 :: S) Z I J := gq_push e_39_1
theorem e_39_2 : g_Pg 39 2 = ga_aload 1 3 := (congrFun pg_39 2).trans rfl
theorem q_39_2 {l0 l2 l3 : Value} {x : Nat} {S : List Value} {Z : gZ} {I : gI} {J : gJ} : g_at 39 2 [l0, .ref x, l2, l3] S Z I J = g_at 39 3 [l0, .ref x, l2, l3] (.ref x :: S) Z I J := gq_aload e_39_2 rfl
theorem e_39_3 : g_Pg 39 3 = ga_getI 0 4 6 := (congrFun pg_39 3).trans rfl
theorem q_39_3 {L : List Value} {a : Nat} {S : List Value} {Z : gZ} {I : gI} {J : gJ} (h : (gKd Z a).1 = 0) : g_at 39 3 L (.ref a :: S) Z I J = g_at 39 6 L (.int (I a 4) :: S) Z I J := gq_getI e_39_3 h
theorem e_39_6 : g_Pg 39 6 = ga_push (.int 1) 7 := (congrFun pg_39 6).trans rfl
theorem q_39_6 {L : List Value} {S : List Value} {Z : gZ} {I : gI} {J : gJ} : g_at 39 6 L S Z I J = g_at 39 7 L (.int 1 :: S) Z I J := gq_push e_39_6
theorem e_39_7 : g_Pg 39 7 = ga_bin (fun x y => x - y) 8 := (congrFun pg_39 7).trans rfl
theorem q_39_7 {L : List Value} {x y : Int32} {S : List Value} {Z : gZ} {I : gI} {J : gJ} : g_at 39 7 L (.int y :: .int x :: S) Z I J = g_at 39 8 L (.int (x - y) :: S) Z I J := gq_bin e_39_7
theorem e_39_8 : g_Pg 39 8 = ga_callV 4 43 2 11 := (congrFun pg_39 8).trans rfl
theorem q_39_8 {L : List Value} {a0 : Int32} {a1 : Int32} {a2 : Nat} {Z : gZ} {I : gI} {J : gJ} (h : (gKd Z a2).1 = 4) : g_at 39 8 L [.int a0, .int a1, .ref a2] Z I J = (g_at 43 0 [.ref a2, .int a1, .int a0, .null] [] Z I J).bind (fun r => g_at 39 11 L (r.1.toList ++ []) r.2.1 r.2.2.1 r.2.2.2) := gq_callV e_39_8 rfl rfl h rfl rfl rfl rfl rfl
theorem e_39_11 : g_Pg 39 11 = ga_if (fun x => decide (¬ x = 0)) 16 14 := (congrFun pg_39 11).trans rfl
theorem q_39_11 {L : List Value} {x : Int32} {S : List Value} {Z : gZ} {I : gI} {J : gJ} : g_at 39 11 L (.int x :: S) Z I J = if ¬ x = 0 then g_at 39 16 L S Z I J else g_at 39 14 L S Z I J := gq_if e_39_11 rfl
theorem e_39_14 : g_Pg 39 14 = ga_push (.int 0) 15 := (congrFun pg_39 14).trans rfl
theorem q_39_14 {L : List Value} {S : List Value} {Z : gZ} {I : gI} {J : gJ} : g_at 39 14 L S Z I J = g_at 39 15 L (.int 0 :: S) Z I J := gq_push e_39_14
theorem e_39_15 : g_Pg 39 15 = ga_zret := (congrFun pg_39 15).trans rfl
theorem q_39_15 {L : List Value} {x : Int32} {Z : gZ} {I : gI} {J : gJ} (h : gB01 x = true) : g_at 39 15 L [.int x] Z I J = some (some (.int x), Z, I, J) := gq_zret e_39_15 h
theorem e_39_16 : g_Pg 39 16 = ga_aload 0 17 := (congrFun pg_39 16).trans rfl
theorem q_39_16 {l1 l2 l3 : Value} {x : Nat} {S : List Value} {Z : gZ} {I : gI} {J : gJ} : g_at 39 16 [.ref x, l1, l2, l3] S Z I J = g_at 39 17 [.ref x, l1, l2, l3] (.ref x :: S) Z I J := gq_aload e_39_16 rfl
theorem e_39_17 : g_Pg 39 17 = ga_getI 4 5 20 := (congrFun pg_39 17).trans rfl
theorem q_39_17 {L : List Value} {a : Nat} {S : List Value} {Z : gZ} {I : gI} {J : gJ} (h : (gKd Z a).1 = 4) : g_at 39 17 L (.ref a :: S) Z I J = g_at 39 20 L (.int (I a 5) :: S) Z I J := gq_getI e_39_17 h
theorem e_39_20 : g_Pg 39 20 = ga_istore 2 21 := (congrFun pg_39 20).trans rfl
theorem q_39_20 {l0 l1 l2 l3 : Value} {x : Int32} {S : List Value} {Z : gZ} {I : gI} {J : gJ} (h : gN1 l1 = true) : g_at 39 20 [l0, l1, l2, l3] (.int x :: S) Z I J = g_at 39 21 [l0, l1, .int x, l3] S Z I J := gq_istore e_39_20 h rfl rfl
theorem e_39_21 : g_Pg 39 21 = ga_aload 0 22 := (congrFun pg_39 21).trans rfl
theorem q_39_21 {l1 l2 l3 : Value} {x : Nat} {S : List Value} {Z : gZ} {I : gI} {J : gJ} : g_at 39 21 [.ref x, l1, l2, l3] S Z I J = g_at 39 22 [.ref x, l1, l2, l3] (.ref x :: S) Z I J := gq_aload e_39_21 rfl
theorem e_39_22 : g_Pg 39 22 = ga_push (.int 0) 23 := (congrFun pg_39 22).trans rfl
theorem q_39_22 {L : List Value} {S : List Value} {Z : gZ} {I : gI} {J : gJ} : g_at 39 22 L S Z I J = g_at 39 23 L (.int 0 :: S) Z I J := gq_push e_39_22
theorem e_39_23 : g_Pg 39 23 = ga_aload 1 24 := (congrFun pg_39 23).trans rfl
theorem q_39_23 {l0 l2 l3 : Value} {x : Nat} {S : List Value} {Z : gZ} {I : gI} {J : gJ} : g_at 39 23 [l0, .ref x, l2, l3] S Z I J = g_at 39 24 [l0, .ref x, l2, l3] (.ref x :: S) Z I J := gq_aload e_39_23 rfl
theorem e_39_24 : g_Pg 39 24 = ga_getI 0 4 27 := (congrFun pg_39 24).trans rfl
theorem q_39_24 {L : List Value} {a : Nat} {S : List Value} {Z : gZ} {I : gI} {J : gJ} (h : (gKd Z a).1 = 0) : g_at 39 24 L (.ref a :: S) Z I J = g_at 39 27 L (.int (I a 4) :: S) Z I J := gq_getI e_39_24 h
theorem e_39_27 : g_Pg 39 27 = ga_push (.int 1) 28 := (congrFun pg_39 27).trans rfl
theorem q_39_27 {L : List Value} {S : List Value} {Z : gZ} {I : gI} {J : gJ} : g_at 39 27 L S Z I J = g_at 39 28 L (.int 1 :: S) Z I J := gq_push e_39_27
theorem e_39_28 : g_Pg 39 28 = ga_bin (fun x y => x - y) 29 := (congrFun pg_39 28).trans rfl
theorem q_39_28 {L : List Value} {x y : Int32} {S : List Value} {Z : gZ} {I : gI} {J : gJ} : g_at 39 28 L (.int y :: .int x :: S) Z I J = g_at 39 29 L (.int (x - y) :: S) Z I J := gq_bin e_39_28
theorem e_39_29 : g_Pg 39 29 = ga_callV 4 43 2 32 := (congrFun pg_39 29).trans rfl
theorem q_39_29 {L : List Value} {a0 : Int32} {a1 : Int32} {a2 : Nat} {Z : gZ} {I : gI} {J : gJ} (h : (gKd Z a2).1 = 4) : g_at 39 29 L [.int a0, .int a1, .ref a2] Z I J = (g_at 43 0 [.ref a2, .int a1, .int a0, .null] [] Z I J).bind (fun r => g_at 39 32 L (r.1.toList ++ []) r.2.1 r.2.2.1 r.2.2.2) := gq_callV e_39_29 rfl rfl h rfl rfl rfl rfl rfl
theorem e_39_32 : g_Pg 39 32 = ga_if (fun x => decide (x = 0)) 43 35 := (congrFun pg_39 32).trans rfl
theorem q_39_32 {L : List Value} {x : Int32} {S : List Value} {Z : gZ} {I : gI} {J : gJ} : g_at 39 32 L (.int x :: S) Z I J = if x = 0 then g_at 39 43 L S Z I J else g_at 39 35 L S Z I J := gq_if e_39_32 rfl
theorem e_39_35 : g_Pg 39 35 = ga_aload 0 36 := (congrFun pg_39 35).trans rfl
theorem q_39_35 {l1 l2 l3 : Value} {x : Nat} {S : List Value} {Z : gZ} {I : gI} {J : gJ} : g_at 39 35 [.ref x, l1, l2, l3] S Z I J = g_at 39 36 [.ref x, l1, l2, l3] (.ref x :: S) Z I J := gq_aload e_39_35 rfl
theorem e_39_36 : g_Pg 39 36 = ga_getI 4 5 39 := (congrFun pg_39 36).trans rfl
theorem q_39_36 {L : List Value} {a : Nat} {S : List Value} {Z : gZ} {I : gI} {J : gJ} (h : (gKd Z a).1 = 4) : g_at 39 36 L (.ref a :: S) Z I J = g_at 39 39 L (.int (I a 5) :: S) Z I J := gq_getI e_39_36 h
theorem e_39_39 : g_Pg 39 39 = ga_iload 2 40 := (congrFun pg_39 39).trans rfl
theorem q_39_39 {l0 l1 l3 : Value} {x : Int32} {S : List Value} {Z : gZ} {I : gI} {J : gJ} : g_at 39 39 [l0, l1, .int x, l3] S Z I J = g_at 39 40 [l0, l1, .int x, l3] (.int x :: S) Z I J := gq_iload e_39_39 rfl
theorem e_39_40 : g_Pg 39 40 = ga_cmp (fun x y => decide (¬ x = y)) 45 43 := (congrFun pg_39 40).trans rfl
theorem q_39_40 {L : List Value} {x y : Int32} {S : List Value} {Z : gZ} {I : gI} {J : gJ} : g_at 39 40 L (.int y :: .int x :: S) Z I J = if ¬ x = y then g_at 39 45 L S Z I J else g_at 39 43 L S Z I J := gq_cmp e_39_40 rfl
theorem e_39_43 : g_Pg 39 43 = ga_push (.int 0) 44 := (congrFun pg_39 43).trans rfl
theorem q_39_43 {L : List Value} {S : List Value} {Z : gZ} {I : gI} {J : gJ} : g_at 39 43 L S Z I J = g_at 39 44 L (.int 0 :: S) Z I J := gq_push e_39_43
theorem e_39_44 : g_Pg 39 44 = ga_zret := (congrFun pg_39 44).trans rfl
theorem q_39_44 {L : List Value} {x : Int32} {Z : gZ} {I : gI} {J : gJ} (h : gB01 x = true) : g_at 39 44 L [.int x] Z I J = some (some (.int x), Z, I, J) := gq_zret e_39_44 h
theorem e_39_45 : g_Pg 39 45 = ga_aload 0 46 := (congrFun pg_39 45).trans rfl
theorem q_39_45 {l1 l2 l3 : Value} {x : Nat} {S : List Value} {Z : gZ} {I : gI} {J : gJ} : g_at 39 45 [.ref x, l1, l2, l3] S Z I J = g_at 39 46 [.ref x, l1, l2, l3] (.ref x :: S) Z I J := gq_aload e_39_45 rfl
theorem e_39_46 : g_Pg 39 46 = ga_getI 4 5 49 := (congrFun pg_39 46).trans rfl
theorem q_39_46 {L : List Value} {a : Nat} {S : List Value} {Z : gZ} {I : gI} {J : gJ} (h : (gKd Z a).1 = 4) : g_at 39 46 L (.ref a :: S) Z I J = g_at 39 49 L (.int (I a 5) :: S) Z I J := gq_getI e_39_46 h
theorem e_39_49 : g_Pg 39 49 = ga_istore 3 50 := (congrFun pg_39 49).trans rfl
theorem q_39_49 {l0 l1 l2 l3 : Value} {x : Int32} {S : List Value} {Z : gZ} {I : gI} {J : gJ} (h : gN1 l2 = true) : g_at 39 49 [l0, l1, l2, l3] (.int x :: S) Z I J = g_at 39 50 [l0, l1, l2, .int x] S Z I J := gq_istore e_39_49 h rfl rfl
theorem e_39_50 : g_Pg 39 50 = ga_aload 0 51 := (congrFun pg_39 50).trans rfl
theorem q_39_50 {l1 l2 l3 : Value} {x : Nat} {S : List Value} {Z : gZ} {I : gI} {J : gJ} : g_at 39 50 [.ref x, l1, l2, l3] S Z I J = g_at 39 51 [.ref x, l1, l2, l3] (.ref x :: S) Z I J := gq_aload e_39_50 rfl
theorem e_39_51 : g_Pg 39 51 = ga_push (.int 1) 52 := (congrFun pg_39 51).trans rfl
theorem q_39_51 {L : List Value} {S : List Value} {Z : gZ} {I : gI} {J : gJ} : g_at 39 51 L S Z I J = g_at 39 52 L (.int 1 :: S) Z I J := gq_push e_39_51
theorem e_39_52 : g_Pg 39 52 = ga_push (.int 9) 54 := (congrFun pg_39 52).trans rfl
theorem q_39_52 {L : List Value} {S : List Value} {Z : gZ} {I : gI} {J : gJ} : g_at 39 52 L S Z I J = g_at 39 54 L (.int 9 :: S) Z I J := gq_push e_39_52
theorem e_39_54 : g_Pg 39 54 = ga_callV 4 43 2 57 := (congrFun pg_39 54).trans rfl
theorem q_39_54 {L : List Value} {a0 : Int32} {a1 : Int32} {a2 : Nat} {Z : gZ} {I : gI} {J : gJ} (h : (gKd Z a2).1 = 4) : g_at 39 54 L [.int a0, .int a1, .ref a2] Z I J = (g_at 43 0 [.ref a2, .int a1, .int a0, .null] [] Z I J).bind (fun r => g_at 39 57 L (r.1.toList ++ []) r.2.1 r.2.2.1 r.2.2.2) := gq_callV e_39_54 rfl rfl h rfl rfl rfl rfl rfl
theorem e_39_57 : g_Pg 39 57 = ga_if (fun x => decide (¬ x = 0)) 62 60 := (congrFun pg_39 57).trans rfl
theorem q_39_57 {L : List Value} {x : Int32} {S : List Value} {Z : gZ} {I : gI} {J : gJ} : g_at 39 57 L (.int x :: S) Z I J = if ¬ x = 0 then g_at 39 62 L S Z I J else g_at 39 60 L S Z I J := gq_if e_39_57 rfl
theorem e_39_60 : g_Pg 39 60 = ga_push (.int 0) 61 := (congrFun pg_39 60).trans rfl
theorem q_39_60 {L : List Value} {S : List Value} {Z : gZ} {I : gI} {J : gJ} : g_at 39 60 L S Z I J = g_at 39 61 L (.int 0 :: S) Z I J := gq_push e_39_60
theorem e_39_61 : g_Pg 39 61 = ga_zret := (congrFun pg_39 61).trans rfl
theorem q_39_61 {L : List Value} {x : Int32} {Z : gZ} {I : gI} {J : gJ} (h : gB01 x = true) : g_at 39 61 L [.int x] Z I J = some (some (.int x), Z, I, J) := gq_zret e_39_61 h
theorem e_39_62 : g_Pg 39 62 = ga_aload 1 63 := (congrFun pg_39 62).trans rfl
theorem q_39_62 {l0 l2 l3 : Value} {x : Nat} {S : List Value} {Z : gZ} {I : gI} {J : gJ} : g_at 39 62 [l0, .ref x, l2, l3] S Z I J = g_at 39 63 [l0, .ref x, l2, l3] (.ref x :: S) Z I J := gq_aload e_39_62 rfl
theorem e_39_63 : g_Pg 39 63 = ga_getR 0 0 66 := (congrFun pg_39 63).trans rfl
theorem q_39_63 {L : List Value} {a : Nat} {S : List Value} {Z : gZ} {I : gI} {J : gJ} (h : (gKd Z a).1 = 0) (h1 : gRs Z a 0 = true) : g_at 39 63 L (.ref a :: S) Z I J = g_at 39 66 L (.ref (gRq Z a 0) :: S) Z I J := gq_getR e_39_63 h h1
theorem e_39_66 : g_Pg 39 66 = ga_iload 2 67 := (congrFun pg_39 66).trans rfl
theorem q_39_66 {l0 l1 l3 : Value} {x : Int32} {S : List Value} {Z : gZ} {I : gI} {J : gJ} : g_at 39 66 [l0, l1, .int x, l3] S Z I J = g_at 39 67 [l0, l1, .int x, l3] (.int x :: S) Z I J := gq_iload e_39_66 rfl
theorem e_39_67 : g_Pg 39 67 = ga_iload 3 68 := (congrFun pg_39 67).trans rfl
theorem q_39_67 {l0 l1 l2 : Value} {x : Int32} {S : List Value} {Z : gZ} {I : gI} {J : gJ} : g_at 39 67 [l0, l1, l2, .int x] S Z I J = g_at 39 68 [l0, l1, l2, .int x] (.int x :: S) Z I J := gq_iload e_39_67 rfl
theorem e_39_68 : g_Pg 39 68 = ga_iast 69 := (congrFun pg_39 68).trans rfl
theorem q_39_68 {L : List Value} {a : Nat} {i : Int32} {v : Int32} {S : List Value} {Z : gZ} {I : gI} {J : gJ} (h : (gKd Z a).1 = 8) (h0 : 0 ≤ i) (h1 : i.toNatClampNeg < (gKd Z a).2) : g_at 39 68 L (.int v :: .int i :: .ref a :: S) Z I J = g_at 39 69 L S Z (va_up I a (va_up (I a) i.toNatClampNeg v)) J := gq_iast e_39_68 h h0 h1
theorem e_39_69 : g_Pg 39 69 = ga_aload 1 70 := (congrFun pg_39 69).trans rfl
theorem q_39_69 {l0 l2 l3 : Value} {x : Nat} {S : List Value} {Z : gZ} {I : gI} {J : gJ} : g_at 39 69 [l0, .ref x, l2, l3] S Z I J = g_at 39 70 [l0, .ref x, l2, l3] (.ref x :: S) Z I J := gq_aload e_39_69 rfl
theorem e_39_70 : g_Pg 39 70 = ga_getR 0 1 73 := (congrFun pg_39 70).trans rfl
theorem q_39_70 {L : List Value} {a : Nat} {S : List Value} {Z : gZ} {I : gI} {J : gJ} (h : (gKd Z a).1 = 0) (h1 : gRs Z a 1 = true) : g_at 39 70 L (.ref a :: S) Z I J = g_at 39 73 L (.ref (gRq Z a 1) :: S) Z I J := gq_getR e_39_70 h h1
theorem e_39_73 : g_Pg 39 73 = ga_iload 2 74 := (congrFun pg_39 73).trans rfl
theorem q_39_73 {l0 l1 l3 : Value} {x : Int32} {S : List Value} {Z : gZ} {I : gI} {J : gJ} : g_at 39 73 [l0, l1, .int x, l3] S Z I J = g_at 39 74 [l0, l1, .int x, l3] (.int x :: S) Z I J := gq_iload e_39_73 rfl
theorem e_39_74 : g_Pg 39 74 = ga_aload 0 75 := (congrFun pg_39 74).trans rfl
theorem q_39_74 {l1 l2 l3 : Value} {x : Nat} {S : List Value} {Z : gZ} {I : gI} {J : gJ} : g_at 39 74 [.ref x, l1, l2, l3] S Z I J = g_at 39 75 [.ref x, l1, l2, l3] (.ref x :: S) Z I J := gq_aload e_39_74 rfl
theorem e_39_75 : g_Pg 39 75 = ga_getI 4 5 78 := (congrFun pg_39 75).trans rfl
theorem q_39_75 {L : List Value} {a : Nat} {S : List Value} {Z : gZ} {I : gI} {J : gJ} (h : (gKd Z a).1 = 4) : g_at 39 75 L (.ref a :: S) Z I J = g_at 39 78 L (.int (I a 5) :: S) Z I J := gq_getI e_39_75 h
theorem e_39_78 : g_Pg 39 78 = ga_iast 79 := (congrFun pg_39 78).trans rfl
theorem q_39_78 {L : List Value} {a : Nat} {i : Int32} {v : Int32} {S : List Value} {Z : gZ} {I : gI} {J : gJ} (h : (gKd Z a).1 = 8) (h0 : 0 ≤ i) (h1 : i.toNatClampNeg < (gKd Z a).2) : g_at 39 78 L (.int v :: .int i :: .ref a :: S) Z I J = g_at 39 79 L S Z (va_up I a (va_up (I a) i.toNatClampNeg v)) J := gq_iast e_39_78 h h0 h1
theorem e_39_79 : g_Pg 39 79 = ga_push (.int 1) 80 := (congrFun pg_39 79).trans rfl
theorem q_39_79 {L : List Value} {S : List Value} {Z : gZ} {I : gI} {J : gJ} : g_at 39 79 L S Z I J = g_at 39 80 L (.int 1 :: S) Z I J := gq_push e_39_79
theorem e_39_80 : g_Pg 39 80 = ga_zret := (congrFun pg_39 80).trans rfl
theorem q_39_80 {L : List Value} {x : Int32} {Z : gZ} {I : gI} {J : gJ} (h : gB01 x = true) : g_at 39 80 L [.int x] Z I J = some (some (.int x), Z, I, J) := gq_zret e_39_80 h
theorem e_40_0 : g_Pg 40 0 = ga_aload 0 1 := (congrFun pg_40 0).trans rfl
theorem q_40_0 {l1 : Value} {x : Nat} {S : List Value} {Z : gZ} {I : gI} {J : gJ} : g_at 40 0 [.ref x, l1] S Z I J = g_at 40 1 [.ref x, l1] (.ref x :: S) Z I J := gq_aload e_40_0 rfl
theorem e_40_1 : g_Pg 40 1 = ga_push (.int 0) 2 := (congrFun pg_40 1).trans rfl
theorem q_40_1 {L : List Value} {S : List Value} {Z : gZ} {I : gI} {J : gJ} : g_at 40 1 L S Z I J = g_at 40 2 L (.int 0 :: S) Z I J := gq_push e_40_1
theorem e_40_2 : g_Pg 40 2 = ga_aload 1 3 := (congrFun pg_40 2).trans rfl
theorem q_40_2 {l0 : Value} {x : Nat} {S : List Value} {Z : gZ} {I : gI} {J : gJ} : g_at 40 2 [l0, .ref x] S Z I J = g_at 40 3 [l0, .ref x] (.ref x :: S) Z I J := gq_aload e_40_2 rfl
theorem e_40_3 : g_Pg 40 3 = ga_getI 0 4 6 := (congrFun pg_40 3).trans rfl
theorem q_40_3 {L : List Value} {a : Nat} {S : List Value} {Z : gZ} {I : gI} {J : gJ} (h : (gKd Z a).1 = 0) : g_at 40 3 L (.ref a :: S) Z I J = g_at 40 6 L (.int (I a 4) :: S) Z I J := gq_getI e_40_3 h
theorem e_40_6 : g_Pg 40 6 = ga_push (.int 1) 7 := (congrFun pg_40 6).trans rfl
theorem q_40_6 {L : List Value} {S : List Value} {Z : gZ} {I : gI} {J : gJ} : g_at 40 6 L S Z I J = g_at 40 7 L (.int 1 :: S) Z I J := gq_push e_40_6
theorem e_40_7 : g_Pg 40 7 = ga_bin (fun x y => x - y) 8 := (congrFun pg_40 7).trans rfl
theorem q_40_7 {L : List Value} {x y : Int32} {S : List Value} {Z : gZ} {I : gI} {J : gJ} : g_at 40 7 L (.int y :: .int x :: S) Z I J = g_at 40 8 L (.int (x - y) :: S) Z I J := gq_bin e_40_7
theorem e_40_8 : g_Pg 40 8 = ga_callV 4 43 2 11 := (congrFun pg_40 8).trans rfl
theorem q_40_8 {L : List Value} {a0 : Int32} {a1 : Int32} {a2 : Nat} {Z : gZ} {I : gI} {J : gJ} (h : (gKd Z a2).1 = 4) : g_at 40 8 L [.int a0, .int a1, .ref a2] Z I J = (g_at 43 0 [.ref a2, .int a1, .int a0, .null] [] Z I J).bind (fun r => g_at 40 11 L (r.1.toList ++ []) r.2.1 r.2.2.1 r.2.2.2) := gq_callV e_40_8 rfl rfl h rfl rfl rfl rfl rfl
theorem e_40_11 : g_Pg 40 11 = ga_if (fun x => decide (¬ x = 0)) 16 14 := (congrFun pg_40 11).trans rfl
theorem q_40_11 {L : List Value} {x : Int32} {S : List Value} {Z : gZ} {I : gI} {J : gJ} : g_at 40 11 L (.int x :: S) Z I J = if ¬ x = 0 then g_at 40 16 L S Z I J else g_at 40 14 L S Z I J := gq_if e_40_11 rfl
theorem e_40_14 : g_Pg 40 14 = ga_push (.int 0) 15 := (congrFun pg_40 14).trans rfl
theorem q_40_14 {L : List Value} {S : List Value} {Z : gZ} {I : gI} {J : gJ} : g_at 40 14 L S Z I J = g_at 40 15 L (.int 0 :: S) Z I J := gq_push e_40_14
theorem e_40_15 : g_Pg 40 15 = ga_zret := (congrFun pg_40 15).trans rfl
theorem q_40_15 {L : List Value} {x : Int32} {Z : gZ} {I : gI} {J : gJ} (h : gB01 x = true) : g_at 40 15 L [.int x] Z I J = some (some (.int x), Z, I, J) := gq_zret e_40_15 h
theorem e_40_16 : g_Pg 40 16 = ga_aload 1 17 := (congrFun pg_40 16).trans rfl
theorem q_40_16 {l0 : Value} {x : Nat} {S : List Value} {Z : gZ} {I : gI} {J : gJ} : g_at 40 16 [l0, .ref x] S Z I J = g_at 40 17 [l0, .ref x] (.ref x :: S) Z I J := gq_aload e_40_16 rfl
theorem e_40_17 : g_Pg 40 17 = ga_getR 0 0 20 := (congrFun pg_40 17).trans rfl
theorem q_40_17 {L : List Value} {a : Nat} {S : List Value} {Z : gZ} {I : gI} {J : gJ} (h : (gKd Z a).1 = 0) (h1 : gRs Z a 0 = true) : g_at 40 17 L (.ref a :: S) Z I J = g_at 40 20 L (.ref (gRq Z a 0) :: S) Z I J := gq_getR e_40_17 h h1
theorem e_40_20 : g_Pg 40 20 = ga_aload 0 21 := (congrFun pg_40 20).trans rfl
theorem q_40_20 {l1 : Value} {x : Nat} {S : List Value} {Z : gZ} {I : gI} {J : gJ} : g_at 40 20 [.ref x, l1] S Z I J = g_at 40 21 [.ref x, l1] (.ref x :: S) Z I J := gq_aload e_40_20 rfl
theorem e_40_21 : g_Pg 40 21 = ga_getI 4 5 24 := (congrFun pg_40 21).trans rfl
theorem q_40_21 {L : List Value} {a : Nat} {S : List Value} {Z : gZ} {I : gI} {J : gJ} (h : (gKd Z a).1 = 4) : g_at 40 21 L (.ref a :: S) Z I J = g_at 40 24 L (.int (I a 5) :: S) Z I J := gq_getI e_40_21 h
theorem e_40_24 : g_Pg 40 24 = ga_push (.int (-1)) 25 := (congrFun pg_40 24).trans rfl
theorem q_40_24 {L : List Value} {S : List Value} {Z : gZ} {I : gI} {J : gJ} : g_at 40 24 L S Z I J = g_at 40 25 L (.int (-1) :: S) Z I J := gq_push e_40_24
theorem e_40_25 : g_Pg 40 25 = ga_iast 26 := (congrFun pg_40 25).trans rfl
theorem q_40_25 {L : List Value} {a : Nat} {i : Int32} {v : Int32} {S : List Value} {Z : gZ} {I : gI} {J : gJ} (h : (gKd Z a).1 = 8) (h0 : 0 ≤ i) (h1 : i.toNatClampNeg < (gKd Z a).2) : g_at 40 25 L (.int v :: .int i :: .ref a :: S) Z I J = g_at 40 26 L S Z (va_up I a (va_up (I a) i.toNatClampNeg v)) J := gq_iast e_40_25 h h0 h1
theorem e_40_26 : g_Pg 40 26 = ga_aload 1 27 := (congrFun pg_40 26).trans rfl
theorem q_40_26 {l0 : Value} {x : Nat} {S : List Value} {Z : gZ} {I : gI} {J : gJ} : g_at 40 26 [l0, .ref x] S Z I J = g_at 40 27 [l0, .ref x] (.ref x :: S) Z I J := gq_aload e_40_26 rfl
theorem e_40_27 : g_Pg 40 27 = ga_getR 0 1 30 := (congrFun pg_40 27).trans rfl
theorem q_40_27 {L : List Value} {a : Nat} {S : List Value} {Z : gZ} {I : gI} {J : gJ} (h : (gKd Z a).1 = 0) (h1 : gRs Z a 1 = true) : g_at 40 27 L (.ref a :: S) Z I J = g_at 40 30 L (.ref (gRq Z a 1) :: S) Z I J := gq_getR e_40_27 h h1
theorem e_40_30 : g_Pg 40 30 = ga_aload 0 31 := (congrFun pg_40 30).trans rfl
theorem q_40_30 {l1 : Value} {x : Nat} {S : List Value} {Z : gZ} {I : gI} {J : gJ} : g_at 40 30 [.ref x, l1] S Z I J = g_at 40 31 [.ref x, l1] (.ref x :: S) Z I J := gq_aload e_40_30 rfl
theorem e_40_31 : g_Pg 40 31 = ga_getI 4 5 34 := (congrFun pg_40 31).trans rfl
theorem q_40_31 {L : List Value} {a : Nat} {S : List Value} {Z : gZ} {I : gI} {J : gJ} (h : (gKd Z a).1 = 4) : g_at 40 31 L (.ref a :: S) Z I J = g_at 40 34 L (.int (I a 5) :: S) Z I J := gq_getI e_40_31 h
theorem e_40_34 : g_Pg 40 34 = ga_push (.int 0) 35 := (congrFun pg_40 34).trans rfl
theorem q_40_34 {L : List Value} {S : List Value} {Z : gZ} {I : gI} {J : gJ} : g_at 40 34 L S Z I J = g_at 40 35 L (.int 0 :: S) Z I J := gq_push e_40_34
theorem e_40_35 : g_Pg 40 35 = ga_iast 36 := (congrFun pg_40 35).trans rfl
theorem q_40_35 {L : List Value} {a : Nat} {i : Int32} {v : Int32} {S : List Value} {Z : gZ} {I : gI} {J : gJ} (h : (gKd Z a).1 = 8) (h0 : 0 ≤ i) (h1 : i.toNatClampNeg < (gKd Z a).2) : g_at 40 35 L (.int v :: .int i :: .ref a :: S) Z I J = g_at 40 36 L S Z (va_up I a (va_up (I a) i.toNatClampNeg v)) J := gq_iast e_40_35 h h0 h1
theorem e_40_36 : g_Pg 40 36 = ga_push (.int 1) 37 := (congrFun pg_40 36).trans rfl
theorem q_40_36 {L : List Value} {S : List Value} {Z : gZ} {I : gI} {J : gJ} : g_at 40 36 L S Z I J = g_at 40 37 L (.int 1 :: S) Z I J := gq_push e_40_36
theorem e_40_37 : g_Pg 40 37 = ga_zret := (congrFun pg_40 37).trans rfl
theorem q_40_37 {L : List Value} {x : Int32} {Z : gZ} {I : gI} {J : gJ} (h : gB01 x = true) : g_at 40 37 L [.int x] Z I J = some (some (.int x), Z, I, J) := gq_zret e_40_37 h
theorem e_41_0 : g_Pg 41 0 = ga_aload 0 1 := (congrFun pg_41 0).trans rfl
theorem q_41_0 {l1 l2 l3 : Value} {x : Nat} {S : List Value} {Z : gZ} {I : gI} {J : gJ} : g_at 41 0 [.ref x, l1, l2, l3] S Z I J = g_at 41 1 [.ref x, l1, l2, l3] (.ref x :: S) Z I J := gq_aload e_41_0 rfl
theorem e_41_1 : g_Pg 41 1 = ga_push (.int 0) 2 := (congrFun pg_41 1).trans rfl
theorem q_41_1 {L : List Value} {S : List Value} {Z : gZ} {I : gI} {J : gJ} : g_at 41 1 L S Z I J = g_at 41 2 L (.int 0 :: S) Z I J := gq_push e_41_1
theorem e_41_2 : g_Pg 41 2 = ga_aload 1 3 := (congrFun pg_41 2).trans rfl
theorem q_41_2 {l0 l2 l3 : Value} {x : Nat} {S : List Value} {Z : gZ} {I : gI} {J : gJ} : g_at 41 2 [l0, .ref x, l2, l3] S Z I J = g_at 41 3 [l0, .ref x, l2, l3] (.ref x :: S) Z I J := gq_aload e_41_2 rfl
theorem e_41_3 : g_Pg 41 3 = ga_getI 0 4 6 := (congrFun pg_41 3).trans rfl
theorem q_41_3 {L : List Value} {a : Nat} {S : List Value} {Z : gZ} {I : gI} {J : gJ} (h : (gKd Z a).1 = 0) : g_at 41 3 L (.ref a :: S) Z I J = g_at 41 6 L (.int (I a 4) :: S) Z I J := gq_getI e_41_3 h
theorem e_41_6 : g_Pg 41 6 = ga_push (.int 1) 7 := (congrFun pg_41 6).trans rfl
theorem q_41_6 {L : List Value} {S : List Value} {Z : gZ} {I : gI} {J : gJ} : g_at 41 6 L S Z I J = g_at 41 7 L (.int 1 :: S) Z I J := gq_push e_41_6
theorem e_41_7 : g_Pg 41 7 = ga_bin (fun x y => x - y) 8 := (congrFun pg_41 7).trans rfl
theorem q_41_7 {L : List Value} {x y : Int32} {S : List Value} {Z : gZ} {I : gI} {J : gJ} : g_at 41 7 L (.int y :: .int x :: S) Z I J = g_at 41 8 L (.int (x - y) :: S) Z I J := gq_bin e_41_7
theorem e_41_8 : g_Pg 41 8 = ga_callV 4 43 2 11 := (congrFun pg_41 8).trans rfl
theorem q_41_8 {L : List Value} {a0 : Int32} {a1 : Int32} {a2 : Nat} {Z : gZ} {I : gI} {J : gJ} (h : (gKd Z a2).1 = 4) : g_at 41 8 L [.int a0, .int a1, .ref a2] Z I J = (g_at 43 0 [.ref a2, .int a1, .int a0, .null] [] Z I J).bind (fun r => g_at 41 11 L (r.1.toList ++ []) r.2.1 r.2.2.1 r.2.2.2) := gq_callV e_41_8 rfl rfl h rfl rfl rfl rfl rfl
theorem e_41_11 : g_Pg 41 11 = ga_if (fun x => decide (¬ x = 0)) 16 14 := (congrFun pg_41 11).trans rfl
theorem q_41_11 {L : List Value} {x : Int32} {S : List Value} {Z : gZ} {I : gI} {J : gJ} : g_at 41 11 L (.int x :: S) Z I J = if ¬ x = 0 then g_at 41 16 L S Z I J else g_at 41 14 L S Z I J := gq_if e_41_11 rfl
theorem e_41_14 : g_Pg 41 14 = ga_push (.int 0) 15 := (congrFun pg_41 14).trans rfl
theorem q_41_14 {L : List Value} {S : List Value} {Z : gZ} {I : gI} {J : gJ} : g_at 41 14 L S Z I J = g_at 41 15 L (.int 0 :: S) Z I J := gq_push e_41_14
theorem e_41_15 : g_Pg 41 15 = ga_zret := (congrFun pg_41 15).trans rfl
theorem q_41_15 {L : List Value} {x : Int32} {Z : gZ} {I : gI} {J : gJ} (h : gB01 x = true) : g_at 41 15 L [.int x] Z I J = some (some (.int x), Z, I, J) := gq_zret e_41_15 h
theorem e_41_16 : g_Pg 41 16 = ga_aload 0 17 := (congrFun pg_41 16).trans rfl
theorem q_41_16 {l1 l2 l3 : Value} {x : Nat} {S : List Value} {Z : gZ} {I : gI} {J : gJ} : g_at 41 16 [.ref x, l1, l2, l3] S Z I J = g_at 41 17 [.ref x, l1, l2, l3] (.ref x :: S) Z I J := gq_aload e_41_16 rfl
theorem e_41_17 : g_Pg 41 17 = ga_getI 4 5 20 := (congrFun pg_41 17).trans rfl
theorem q_41_17 {L : List Value} {a : Nat} {S : List Value} {Z : gZ} {I : gI} {J : gJ} (h : (gKd Z a).1 = 4) : g_at 41 17 L (.ref a :: S) Z I J = g_at 41 20 L (.int (I a 5) :: S) Z I J := gq_getI e_41_17 h
theorem e_41_20 : g_Pg 41 20 = ga_istore 3 21 := (congrFun pg_41 20).trans rfl
theorem q_41_20 {l0 l1 l2 l3 : Value} {x : Int32} {S : List Value} {Z : gZ} {I : gI} {J : gJ} (h : gN1 l2 = true) : g_at 41 20 [l0, l1, l2, l3] (.int x :: S) Z I J = g_at 41 21 [l0, l1, l2, .int x] S Z I J := gq_istore e_41_20 h rfl rfl
theorem e_41_21 : g_Pg 41 21 = ga_aload 0 22 := (congrFun pg_41 21).trans rfl
theorem q_41_21 {l1 l2 l3 : Value} {x : Nat} {S : List Value} {Z : gZ} {I : gI} {J : gJ} : g_at 41 21 [.ref x, l1, l2, l3] S Z I J = g_at 41 22 [.ref x, l1, l2, l3] (.ref x :: S) Z I J := gq_aload e_41_21 rfl
theorem e_41_22 : g_Pg 41 22 = ga_push (.int 1) 23 := (congrFun pg_41 22).trans rfl
theorem q_41_22 {L : List Value} {S : List Value} {Z : gZ} {I : gI} {J : gJ} : g_at 41 22 L S Z I J = g_at 41 23 L (.int 1 :: S) Z I J := gq_push e_41_22
theorem e_41_23 : g_Pg 41 23 = ga_push (.int 20) 25 := (congrFun pg_41 23).trans rfl
theorem q_41_23 {L : List Value} {S : List Value} {Z : gZ} {I : gI} {J : gJ} : g_at 41 23 L S Z I J = g_at 41 25 L (.int 20 :: S) Z I J := gq_push e_41_23
theorem e_41_25 : g_Pg 41 25 = ga_callV 4 43 2 28 := (congrFun pg_41 25).trans rfl
theorem q_41_25 {L : List Value} {a0 : Int32} {a1 : Int32} {a2 : Nat} {Z : gZ} {I : gI} {J : gJ} (h : (gKd Z a2).1 = 4) : g_at 41 25 L [.int a0, .int a1, .ref a2] Z I J = (g_at 43 0 [.ref a2, .int a1, .int a0, .null] [] Z I J).bind (fun r => g_at 41 28 L (r.1.toList ++ []) r.2.1 r.2.2.1 r.2.2.2) := gq_callV e_41_25 rfl rfl h rfl rfl rfl rfl rfl
theorem e_41_28 : g_Pg 41 28 = ga_if (fun x => decide (¬ x = 0)) 33 31 := (congrFun pg_41 28).trans rfl
theorem q_41_28 {L : List Value} {x : Int32} {S : List Value} {Z : gZ} {I : gI} {J : gJ} : g_at 41 28 L (.int x :: S) Z I J = if ¬ x = 0 then g_at 41 33 L S Z I J else g_at 41 31 L S Z I J := gq_if e_41_28 rfl
theorem e_41_31 : g_Pg 41 31 = ga_push (.int 0) 32 := (congrFun pg_41 31).trans rfl
theorem q_41_31 {L : List Value} {S : List Value} {Z : gZ} {I : gI} {J : gJ} : g_at 41 31 L S Z I J = g_at 41 32 L (.int 0 :: S) Z I J := gq_push e_41_31
theorem e_41_32 : g_Pg 41 32 = ga_zret := (congrFun pg_41 32).trans rfl
theorem q_41_32 {L : List Value} {x : Int32} {Z : gZ} {I : gI} {J : gJ} (h : gB01 x = true) : g_at 41 32 L [.int x] Z I J = some (some (.int x), Z, I, J) := gq_zret e_41_32 h
theorem e_41_33 : g_Pg 41 33 = ga_aload 1 34 := (congrFun pg_41 33).trans rfl
theorem q_41_33 {l0 l2 l3 : Value} {x : Nat} {S : List Value} {Z : gZ} {I : gI} {J : gJ} : g_at 41 33 [l0, .ref x, l2, l3] S Z I J = g_at 41 34 [l0, .ref x, l2, l3] (.ref x :: S) Z I J := gq_aload e_41_33 rfl
theorem e_41_34 : g_Pg 41 34 = ga_getR 0 2 37 := (congrFun pg_41 34).trans rfl
theorem q_41_34 {L : List Value} {a : Nat} {S : List Value} {Z : gZ} {I : gI} {J : gJ} (h : (gKd Z a).1 = 0) (h1 : gRs Z a 2 = true) : g_at 41 34 L (.ref a :: S) Z I J = g_at 41 37 L (.ref (gRq Z a 2) :: S) Z I J := gq_getR e_41_34 h h1
theorem e_41_37 : g_Pg 41 37 = ga_iload 3 38 := (congrFun pg_41 37).trans rfl
theorem q_41_37 {l0 l1 l2 : Value} {x : Int32} {S : List Value} {Z : gZ} {I : gI} {J : gJ} : g_at 41 37 [l0, l1, l2, .int x] S Z I J = g_at 41 38 [l0, l1, l2, .int x] (.int x :: S) Z I J := gq_iload e_41_37 rfl
theorem e_41_38 : g_Pg 41 38 = ga_iload 2 39 := (congrFun pg_41 38).trans rfl
theorem q_41_38 {l0 l1 l3 : Value} {x : Int32} {S : List Value} {Z : gZ} {I : gI} {J : gJ} : g_at 41 38 [l0, l1, .int x, l3] S Z I J = g_at 41 39 [l0, l1, .int x, l3] (.int x :: S) Z I J := gq_iload e_41_38 rfl
theorem e_41_39 : g_Pg 41 39 = ga_iast 40 := (congrFun pg_41 39).trans rfl
theorem q_41_39 {L : List Value} {a : Nat} {i : Int32} {v : Int32} {S : List Value} {Z : gZ} {I : gI} {J : gJ} (h : (gKd Z a).1 = 8) (h0 : 0 ≤ i) (h1 : i.toNatClampNeg < (gKd Z a).2) : g_at 41 39 L (.int v :: .int i :: .ref a :: S) Z I J = g_at 41 40 L S Z (va_up I a (va_up (I a) i.toNatClampNeg v)) J := gq_iast e_41_39 h h0 h1
theorem e_41_40 : g_Pg 41 40 = ga_aload 1 41 := (congrFun pg_41 40).trans rfl
theorem q_41_40 {l0 l2 l3 : Value} {x : Nat} {S : List Value} {Z : gZ} {I : gI} {J : gJ} : g_at 41 40 [l0, .ref x, l2, l3] S Z I J = g_at 41 41 [l0, .ref x, l2, l3] (.ref x :: S) Z I J := gq_aload e_41_40 rfl
theorem e_41_41 : g_Pg 41 41 = ga_getR 0 3 44 := (congrFun pg_41 41).trans rfl
theorem q_41_41 {L : List Value} {a : Nat} {S : List Value} {Z : gZ} {I : gI} {J : gJ} (h : (gKd Z a).1 = 0) (h1 : gRs Z a 3 = true) : g_at 41 41 L (.ref a :: S) Z I J = g_at 41 44 L (.ref (gRq Z a 3) :: S) Z I J := gq_getR e_41_41 h h1
theorem e_41_44 : g_Pg 41 44 = ga_iload 3 45 := (congrFun pg_41 44).trans rfl
theorem q_41_44 {l0 l1 l2 : Value} {x : Int32} {S : List Value} {Z : gZ} {I : gI} {J : gJ} : g_at 41 44 [l0, l1, l2, .int x] S Z I J = g_at 41 45 [l0, l1, l2, .int x] (.int x :: S) Z I J := gq_iload e_41_44 rfl
theorem e_41_45 : g_Pg 41 45 = ga_aload 0 46 := (congrFun pg_41 45).trans rfl
theorem q_41_45 {l1 l2 l3 : Value} {x : Nat} {S : List Value} {Z : gZ} {I : gI} {J : gJ} : g_at 41 45 [.ref x, l1, l2, l3] S Z I J = g_at 41 46 [.ref x, l1, l2, l3] (.ref x :: S) Z I J := gq_aload e_41_45 rfl
theorem e_41_46 : g_Pg 41 46 = ga_getI 4 5 49 := (congrFun pg_41 46).trans rfl
theorem q_41_46 {L : List Value} {a : Nat} {S : List Value} {Z : gZ} {I : gI} {J : gJ} (h : (gKd Z a).1 = 4) : g_at 41 46 L (.ref a :: S) Z I J = g_at 41 49 L (.int (I a 5) :: S) Z I J := gq_getI e_41_46 h
theorem e_41_49 : g_Pg 41 49 = ga_iast 50 := (congrFun pg_41 49).trans rfl
theorem q_41_49 {L : List Value} {a : Nat} {i : Int32} {v : Int32} {S : List Value} {Z : gZ} {I : gI} {J : gJ} (h : (gKd Z a).1 = 8) (h0 : 0 ≤ i) (h1 : i.toNatClampNeg < (gKd Z a).2) : g_at 41 49 L (.int v :: .int i :: .ref a :: S) Z I J = g_at 41 50 L S Z (va_up I a (va_up (I a) i.toNatClampNeg v)) J := gq_iast e_41_49 h h0 h1
theorem e_41_50 : g_Pg 41 50 = ga_push (.int 1) 51 := (congrFun pg_41 50).trans rfl
theorem q_41_50 {L : List Value} {S : List Value} {Z : gZ} {I : gI} {J : gJ} : g_at 41 50 L S Z I J = g_at 41 51 L (.int 1 :: S) Z I J := gq_push e_41_50
theorem e_41_51 : g_Pg 41 51 = ga_zret := (congrFun pg_41 51).trans rfl
theorem q_41_51 {L : List Value} {x : Int32} {Z : gZ} {I : gI} {J : gJ} (h : gB01 x = true) : g_at 41 51 L [.int x] Z I J = some (some (.int x), Z, I, J) := gq_zret e_41_51 h
theorem e_42_0 : g_Pg 42 0 = ga_aload 0 1 := (congrFun pg_42 0).trans rfl
theorem q_42_0 {x : Nat} {S : List Value} {Z : gZ} {I : gI} {J : gJ} : g_at 42 0 [.ref x] S Z I J = g_at 42 1 [.ref x] (.ref x :: S) Z I J := gq_aload e_42_0 rfl
theorem e_42_1 : g_Pg 42 1 = ga_aload 0 2 := (congrFun pg_42 1).trans rfl
theorem q_42_1 {x : Nat} {S : List Value} {Z : gZ} {I : gI} {J : gJ} : g_at 42 1 [.ref x] S Z I J = g_at 42 2 [.ref x] (.ref x :: S) Z I J := gq_aload e_42_1 rfl
theorem e_42_2 : g_Pg 42 2 = ga_getI 4 4 5 := (congrFun pg_42 2).trans rfl
theorem q_42_2 {L : List Value} {a : Nat} {S : List Value} {Z : gZ} {I : gI} {J : gJ} (h : (gKd Z a).1 = 4) : g_at 42 2 L (.ref a :: S) Z I J = g_at 42 5 L (.int (I a 4) :: S) Z I J := gq_getI e_42_2 h
theorem e_42_5 : g_Pg 42 5 = ga_putI 4 3 8 := (congrFun pg_42 5).trans rfl
theorem q_42_5 {L : List Value} {a : Nat} {v : Int32} {S : List Value} {Z : gZ} {I : gI} {J : gJ} (h : (gKd Z a).1 = 4) : g_at 42 5 L (.int v :: .ref a :: S) Z I J = g_at 42 8 L S Z (va_up I a (va_up (I a) 3 v)) J := gq_putI e_42_5 h
theorem e_42_8 : g_Pg 42 8 = ga_aload 0 9 := (congrFun pg_42 8).trans rfl
theorem q_42_8 {x : Nat} {S : List Value} {Z : gZ} {I : gI} {J : gJ} : g_at 42 8 [.ref x] S Z I J = g_at 42 9 [.ref x] (.ref x :: S) Z I J := gq_aload e_42_8 rfl
theorem e_42_9 : g_Pg 42 9 = ga_getI 4 3 12 := (congrFun pg_42 9).trans rfl
theorem q_42_9 {L : List Value} {a : Nat} {S : List Value} {Z : gZ} {I : gI} {J : gJ} (h : (gKd Z a).1 = 4) : g_at 42 9 L (.ref a :: S) Z I J = g_at 42 12 L (.int (I a 3) :: S) Z I J := gq_getI e_42_9 h
theorem e_42_12 : g_Pg 42 12 = ga_aload 0 13 := (congrFun pg_42 12).trans rfl
theorem q_42_12 {x : Nat} {S : List Value} {Z : gZ} {I : gI} {J : gJ} : g_at 42 12 [.ref x] S Z I J = g_at 42 13 [.ref x] (.ref x :: S) Z I J := gq_aload e_42_12 rfl
theorem e_42_13 : g_Pg 42 13 = ga_getI 4 1 16 := (congrFun pg_42 13).trans rfl
theorem q_42_13 {L : List Value} {a : Nat} {S : List Value} {Z : gZ} {I : gI} {J : gJ} (h : (gKd Z a).1 = 4) : g_at 42 13 L (.ref a :: S) Z I J = g_at 42 16 L (.int (I a 1) :: S) Z I J := gq_getI e_42_13 h
theorem e_42_16 : g_Pg 42 16 = ga_cmp (fun x y => decide (y ≤ x)) 45 19 := (congrFun pg_42 16).trans rfl
theorem q_42_16 {L : List Value} {x y : Int32} {S : List Value} {Z : gZ} {I : gI} {J : gJ} : g_at 42 16 L (.int y :: .int x :: S) Z I J = if y ≤ x then g_at 42 45 L S Z I J else g_at 42 19 L S Z I J := gq_cmp e_42_16 rfl
theorem e_42_19 : g_Pg 42 19 = ga_aload 0 20 := (congrFun pg_42 19).trans rfl
theorem q_42_19 {x : Nat} {S : List Value} {Z : gZ} {I : gI} {J : gJ} : g_at 42 19 [.ref x] S Z I J = g_at 42 20 [.ref x] (.ref x :: S) Z I J := gq_aload e_42_19 rfl
theorem e_42_20 : g_Pg 42 20 = ga_aload 0 21 := (congrFun pg_42 20).trans rfl
theorem q_42_20 {x : Nat} {S : List Value} {Z : gZ} {I : gI} {J : gJ} : g_at 42 20 [.ref x] S Z I J = g_at 42 21 [.ref x] (.ref x :: S) Z I J := gq_aload e_42_20 rfl
theorem e_42_21 : g_Pg 42 21 = ga_getI 4 3 24 := (congrFun pg_42 21).trans rfl
theorem q_42_21 {L : List Value} {a : Nat} {S : List Value} {Z : gZ} {I : gI} {J : gJ} (h : (gKd Z a).1 = 4) : g_at 42 21 L (.ref a :: S) Z I J = g_at 42 24 L (.int (I a 3) :: S) Z I J := gq_getI e_42_21 h
theorem e_42_24 : g_Pg 42 24 = ga_callV 4 49 1 27 := (congrFun pg_42 24).trans rfl
theorem q_42_24 {L : List Value} {a0 : Int32} {a1 : Nat} {Z : gZ} {I : gI} {J : gJ} (h : (gKd Z a1).1 = 4) : g_at 42 24 L [.int a0, .ref a1] Z I J = (g_at 49 0 [.ref a1, .int a0] [] Z I J).bind (fun r => g_at 42 27 L (r.1.toList ++ []) r.2.1 r.2.2.1 r.2.2.2) := gq_callV e_42_24 rfl rfl h rfl rfl rfl rfl rfl
theorem e_42_27 : g_Pg 42 27 = ga_push (.int 32) 29 := (congrFun pg_42 27).trans rfl
theorem q_42_27 {L : List Value} {S : List Value} {Z : gZ} {I : gI} {J : gJ} : g_at 42 27 L S Z I J = g_at 42 29 L (.int 32 :: S) Z I J := gq_push e_42_27
theorem e_42_29 : g_Pg 42 29 = ga_cmp (fun x y => decide (¬ x = y)) 45 32 := (congrFun pg_42 29).trans rfl
theorem q_42_29 {L : List Value} {x y : Int32} {S : List Value} {Z : gZ} {I : gI} {J : gJ} : g_at 42 29 L (.int y :: .int x :: S) Z I J = if ¬ x = y then g_at 42 45 L S Z I J else g_at 42 32 L S Z I J := gq_cmp e_42_29 rfl
theorem e_42_32 : g_Pg 42 32 = ga_aload 0 33 := (congrFun pg_42 32).trans rfl
theorem q_42_32 {x : Nat} {S : List Value} {Z : gZ} {I : gI} {J : gJ} : g_at 42 32 [.ref x] S Z I J = g_at 42 33 [.ref x] (.ref x :: S) Z I J := gq_aload e_42_32 rfl
theorem e_42_33 : g_Pg 42 33 = ga_dup 34 := (congrFun pg_42 33).trans rfl
theorem q_42_33 {L : List Value} {x : Nat} {S : List Value} {Z : gZ} {I : gI} {J : gJ} : g_at 42 33 L (.ref x :: S) Z I J = g_at 42 34 L (.ref x :: .ref x :: S) Z I J := gq_dup e_42_33
theorem e_42_34 : g_Pg 42 34 = ga_getI 4 3 37 := (congrFun pg_42 34).trans rfl
theorem q_42_34 {L : List Value} {a : Nat} {S : List Value} {Z : gZ} {I : gI} {J : gJ} (h : (gKd Z a).1 = 4) : g_at 42 34 L (.ref a :: S) Z I J = g_at 42 37 L (.int (I a 3) :: S) Z I J := gq_getI e_42_34 h
theorem e_42_37 : g_Pg 42 37 = ga_push (.int 1) 38 := (congrFun pg_42 37).trans rfl
theorem q_42_37 {L : List Value} {S : List Value} {Z : gZ} {I : gI} {J : gJ} : g_at 42 37 L S Z I J = g_at 42 38 L (.int 1 :: S) Z I J := gq_push e_42_37
theorem e_42_38 : g_Pg 42 38 = ga_bin (fun x y => x + y) 39 := (congrFun pg_42 38).trans rfl
theorem q_42_38 {L : List Value} {x y : Int32} {S : List Value} {Z : gZ} {I : gI} {J : gJ} : g_at 42 38 L (.int y :: .int x :: S) Z I J = g_at 42 39 L (.int (x + y) :: S) Z I J := gq_bin e_42_38
theorem e_42_39 : g_Pg 42 39 = ga_putI 4 3 42 := (congrFun pg_42 39).trans rfl
theorem q_42_39 {L : List Value} {a : Nat} {v : Int32} {S : List Value} {Z : gZ} {I : gI} {J : gJ} (h : (gKd Z a).1 = 4) : g_at 42 39 L (.int v :: .ref a :: S) Z I J = g_at 42 42 L S Z (va_up I a (va_up (I a) 3 v)) J := gq_putI e_42_39 h
theorem e_42_42 : g_Pg 42 42 = ga_goto 8 := (congrFun pg_42 42).trans rfl
theorem q_42_42 {L : List Value} {S : List Value} {Z : gZ} {I : gI} {J : gJ} : g_at 42 42 L S Z I J = g_at 42 8 L S Z I J := gq_goto e_42_42
theorem e_42_45 : g_Pg 42 45 = ga_aload 0 46 := (congrFun pg_42 45).trans rfl
theorem q_42_45 {x : Nat} {S : List Value} {Z : gZ} {I : gI} {J : gJ} : g_at 42 45 [.ref x] S Z I J = g_at 42 46 [.ref x] (.ref x :: S) Z I J := gq_aload e_42_45 rfl
theorem e_42_46 : g_Pg 42 46 = ga_aload 0 47 := (congrFun pg_42 46).trans rfl
theorem q_42_46 {x : Nat} {S : List Value} {Z : gZ} {I : gI} {J : gJ} : g_at 42 46 [.ref x] S Z I J = g_at 42 47 [.ref x] (.ref x :: S) Z I J := gq_aload e_42_46 rfl
theorem e_42_47 : g_Pg 42 47 = ga_getI 4 3 50 := (congrFun pg_42 47).trans rfl
theorem q_42_47 {L : List Value} {a : Nat} {S : List Value} {Z : gZ} {I : gI} {J : gJ} (h : (gKd Z a).1 = 4) : g_at 42 47 L (.ref a :: S) Z I J = g_at 42 50 L (.int (I a 3) :: S) Z I J := gq_getI e_42_47 h
theorem e_42_50 : g_Pg 42 50 = ga_putI 4 4 53 := (congrFun pg_42 50).trans rfl
theorem q_42_50 {L : List Value} {a : Nat} {v : Int32} {S : List Value} {Z : gZ} {I : gI} {J : gJ} (h : (gKd Z a).1 = 4) : g_at 42 50 L (.int v :: .ref a :: S) Z I J = g_at 42 53 L S Z (va_up I a (va_up (I a) 4 v)) J := gq_putI e_42_50 h
theorem e_42_53 : g_Pg 42 53 = ga_aload 0 54 := (congrFun pg_42 53).trans rfl
theorem q_42_53 {x : Nat} {S : List Value} {Z : gZ} {I : gI} {J : gJ} : g_at 42 53 [.ref x] S Z I J = g_at 42 54 [.ref x] (.ref x :: S) Z I J := gq_aload e_42_53 rfl
theorem e_42_54 : g_Pg 42 54 = ga_aload 0 55 := (congrFun pg_42 54).trans rfl
theorem q_42_54 {x : Nat} {S : List Value} {Z : gZ} {I : gI} {J : gJ} : g_at 42 54 [.ref x] S Z I J = g_at 42 55 [.ref x] (.ref x :: S) Z I J := gq_aload e_42_54 rfl
theorem e_42_55 : g_Pg 42 55 = ga_getI 4 3 58 := (congrFun pg_42 55).trans rfl
theorem q_42_55 {L : List Value} {a : Nat} {S : List Value} {Z : gZ} {I : gI} {J : gJ} (h : (gKd Z a).1 = 4) : g_at 42 55 L (.ref a :: S) Z I J = g_at 42 58 L (.int (I a 3) :: S) Z I J := gq_getI e_42_55 h
theorem e_42_58 : g_Pg 42 58 = ga_callV 4 49 1 61 := (congrFun pg_42 58).trans rfl
theorem q_42_58 {L : List Value} {a0 : Int32} {a1 : Nat} {Z : gZ} {I : gI} {J : gJ} (h : (gKd Z a1).1 = 4) : g_at 42 58 L [.int a0, .ref a1] Z I J = (g_at 49 0 [.ref a1, .int a0] [] Z I J).bind (fun r => g_at 42 61 L (r.1.toList ++ []) r.2.1 r.2.2.1 r.2.2.2) := gq_callV e_42_58 rfl rfl h rfl rfl rfl rfl rfl
theorem e_42_61 : g_Pg 42 61 = ga_call 47 1 64 := (congrFun pg_42 61).trans rfl
theorem q_42_61 {L : List Value} {a0 : Int32} {Z : gZ} {I : gI} {J : gJ} : g_at 42 61 L [.int a0] Z I J = (g_at 47 0 [.int a0] [] Z I J).bind (fun r => g_at 42 64 L (r.1.toList ++ []) r.2.1 r.2.2.1 r.2.2.2) := gq_call e_42_61 rfl rfl rfl rfl rfl
theorem e_42_64 : g_Pg 42 64 = ga_if (fun x => decide (x = 0)) 105 67 := (congrFun pg_42 64).trans rfl
theorem q_42_64 {L : List Value} {x : Int32} {S : List Value} {Z : gZ} {I : gI} {J : gJ} : g_at 42 64 L (.int x :: S) Z I J = if x = 0 then g_at 42 105 L S Z I J else g_at 42 67 L S Z I J := gq_if e_42_64 rfl
theorem e_42_67 : g_Pg 42 67 = ga_aload 0 68 := (congrFun pg_42 67).trans rfl
theorem q_42_67 {x : Nat} {S : List Value} {Z : gZ} {I : gI} {J : gJ} : g_at 42 67 [.ref x] S Z I J = g_at 42 68 [.ref x] (.ref x :: S) Z I J := gq_aload e_42_67 rfl
theorem e_42_68 : g_Pg 42 68 = ga_getI 4 4 71 := (congrFun pg_42 68).trans rfl
theorem q_42_68 {L : List Value} {a : Nat} {S : List Value} {Z : gZ} {I : gI} {J : gJ} (h : (gKd Z a).1 = 4) : g_at 42 68 L (.ref a :: S) Z I J = g_at 42 71 L (.int (I a 4) :: S) Z I J := gq_getI e_42_68 h
theorem e_42_71 : g_Pg 42 71 = ga_aload 0 72 := (congrFun pg_42 71).trans rfl
theorem q_42_71 {x : Nat} {S : List Value} {Z : gZ} {I : gI} {J : gJ} : g_at 42 71 [.ref x] S Z I J = g_at 42 72 [.ref x] (.ref x :: S) Z I J := gq_aload e_42_71 rfl
theorem e_42_72 : g_Pg 42 72 = ga_getI 4 1 75 := (congrFun pg_42 72).trans rfl
theorem q_42_72 {L : List Value} {a : Nat} {S : List Value} {Z : gZ} {I : gI} {J : gJ} (h : (gKd Z a).1 = 4) : g_at 42 72 L (.ref a :: S) Z I J = g_at 42 75 L (.int (I a 1) :: S) Z I J := gq_getI e_42_72 h
theorem e_42_75 : g_Pg 42 75 = ga_cmp (fun x y => decide (y ≤ x)) 178 78 := (congrFun pg_42 75).trans rfl
theorem q_42_75 {L : List Value} {x y : Int32} {S : List Value} {Z : gZ} {I : gI} {J : gJ} : g_at 42 75 L (.int y :: .int x :: S) Z I J = if y ≤ x then g_at 42 178 L S Z I J else g_at 42 78 L S Z I J := gq_cmp e_42_75 rfl
theorem e_42_78 : g_Pg 42 78 = ga_aload 0 79 := (congrFun pg_42 78).trans rfl
theorem q_42_78 {x : Nat} {S : List Value} {Z : gZ} {I : gI} {J : gJ} : g_at 42 78 [.ref x] S Z I J = g_at 42 79 [.ref x] (.ref x :: S) Z I J := gq_aload e_42_78 rfl
theorem e_42_79 : g_Pg 42 79 = ga_aload 0 80 := (congrFun pg_42 79).trans rfl
theorem q_42_79 {x : Nat} {S : List Value} {Z : gZ} {I : gI} {J : gJ} : g_at 42 79 [.ref x] S Z I J = g_at 42 80 [.ref x] (.ref x :: S) Z I J := gq_aload e_42_79 rfl
theorem e_42_80 : g_Pg 42 80 = ga_getI 4 4 83 := (congrFun pg_42 80).trans rfl
theorem q_42_80 {L : List Value} {a : Nat} {S : List Value} {Z : gZ} {I : gI} {J : gJ} (h : (gKd Z a).1 = 4) : g_at 42 80 L (.ref a :: S) Z I J = g_at 42 83 L (.int (I a 4) :: S) Z I J := gq_getI e_42_80 h
theorem e_42_83 : g_Pg 42 83 = ga_callV 4 49 1 86 := (congrFun pg_42 83).trans rfl
theorem q_42_83 {L : List Value} {a0 : Int32} {a1 : Nat} {Z : gZ} {I : gI} {J : gJ} (h : (gKd Z a1).1 = 4) : g_at 42 83 L [.int a0, .ref a1] Z I J = (g_at 49 0 [.ref a1, .int a0] [] Z I J).bind (fun r => g_at 42 86 L (r.1.toList ++ []) r.2.1 r.2.2.1 r.2.2.2) := gq_callV e_42_83 rfl rfl h rfl rfl rfl rfl rfl
theorem e_42_86 : g_Pg 42 86 = ga_call 47 1 89 := (congrFun pg_42 86).trans rfl
theorem q_42_86 {L : List Value} {a0 : Int32} {Z : gZ} {I : gI} {J : gJ} : g_at 42 86 L [.int a0] Z I J = (g_at 47 0 [.int a0] [] Z I J).bind (fun r => g_at 42 89 L (r.1.toList ++ []) r.2.1 r.2.2.1 r.2.2.2) := gq_call e_42_86 rfl rfl rfl rfl rfl
theorem e_42_89 : g_Pg 42 89 = ga_if (fun x => decide (x = 0)) 178 92 := (congrFun pg_42 89).trans rfl
theorem q_42_89 {L : List Value} {x : Int32} {S : List Value} {Z : gZ} {I : gI} {J : gJ} : g_at 42 89 L (.int x :: S) Z I J = if x = 0 then g_at 42 178 L S Z I J else g_at 42 92 L S Z I J := gq_if e_42_89 rfl
theorem e_42_92 : g_Pg 42 92 = ga_aload 0 93 := (congrFun pg_42 92).trans rfl
theorem q_42_92 {x : Nat} {S : List Value} {Z : gZ} {I : gI} {J : gJ} : g_at 42 92 [.ref x] S Z I J = g_at 42 93 [.ref x] (.ref x :: S) Z I J := gq_aload e_42_92 rfl
theorem e_42_93 : g_Pg 42 93 = ga_dup 94 := (congrFun pg_42 93).trans rfl
theorem q_42_93 {L : List Value} {x : Nat} {S : List Value} {Z : gZ} {I : gI} {J : gJ} : g_at 42 93 L (.ref x :: S) Z I J = g_at 42 94 L (.ref x :: .ref x :: S) Z I J := gq_dup e_42_93
theorem e_42_94 : g_Pg 42 94 = ga_getI 4 4 97 := (congrFun pg_42 94).trans rfl
theorem q_42_94 {L : List Value} {a : Nat} {S : List Value} {Z : gZ} {I : gI} {J : gJ} (h : (gKd Z a).1 = 4) : g_at 42 94 L (.ref a :: S) Z I J = g_at 42 97 L (.int (I a 4) :: S) Z I J := gq_getI e_42_94 h
theorem e_42_97 : g_Pg 42 97 = ga_push (.int 1) 98 := (congrFun pg_42 97).trans rfl
theorem q_42_97 {L : List Value} {S : List Value} {Z : gZ} {I : gI} {J : gJ} : g_at 42 97 L S Z I J = g_at 42 98 L (.int 1 :: S) Z I J := gq_push e_42_97
theorem e_42_98 : g_Pg 42 98 = ga_bin (fun x y => x + y) 99 := (congrFun pg_42 98).trans rfl
theorem q_42_98 {L : List Value} {x y : Int32} {S : List Value} {Z : gZ} {I : gI} {J : gJ} : g_at 42 98 L (.int y :: .int x :: S) Z I J = g_at 42 99 L (.int (x + y) :: S) Z I J := gq_bin e_42_98
theorem e_42_99 : g_Pg 42 99 = ga_putI 4 4 102 := (congrFun pg_42 99).trans rfl
theorem q_42_99 {L : List Value} {a : Nat} {v : Int32} {S : List Value} {Z : gZ} {I : gI} {J : gJ} (h : (gKd Z a).1 = 4) : g_at 42 99 L (.int v :: .ref a :: S) Z I J = g_at 42 102 L S Z (va_up I a (va_up (I a) 4 v)) J := gq_putI e_42_99 h
theorem e_42_102 : g_Pg 42 102 = ga_goto 67 := (congrFun pg_42 102).trans rfl
theorem q_42_102 {L : List Value} {S : List Value} {Z : gZ} {I : gI} {J : gJ} : g_at 42 102 L S Z I J = g_at 42 67 L S Z I J := gq_goto e_42_102
theorem e_42_105 : g_Pg 42 105 = ga_aload 0 106 := (congrFun pg_42 105).trans rfl
theorem q_42_105 {x : Nat} {S : List Value} {Z : gZ} {I : gI} {J : gJ} : g_at 42 105 [.ref x] S Z I J = g_at 42 106 [.ref x] (.ref x :: S) Z I J := gq_aload e_42_105 rfl
theorem e_42_106 : g_Pg 42 106 = ga_aload 0 107 := (congrFun pg_42 106).trans rfl
theorem q_42_106 {x : Nat} {S : List Value} {Z : gZ} {I : gI} {J : gJ} : g_at 42 106 [.ref x] S Z I J = g_at 42 107 [.ref x] (.ref x :: S) Z I J := gq_aload e_42_106 rfl
theorem e_42_107 : g_Pg 42 107 = ga_getI 4 3 110 := (congrFun pg_42 107).trans rfl
theorem q_42_107 {L : List Value} {a : Nat} {S : List Value} {Z : gZ} {I : gI} {J : gJ} (h : (gKd Z a).1 = 4) : g_at 42 107 L (.ref a :: S) Z I J = g_at 42 110 L (.int (I a 3) :: S) Z I J := gq_getI e_42_107 h
theorem e_42_110 : g_Pg 42 110 = ga_callV 4 49 1 113 := (congrFun pg_42 110).trans rfl
theorem q_42_110 {L : List Value} {a0 : Int32} {a1 : Nat} {Z : gZ} {I : gI} {J : gJ} (h : (gKd Z a1).1 = 4) : g_at 42 110 L [.int a0, .ref a1] Z I J = (g_at 49 0 [.ref a1, .int a0] [] Z I J).bind (fun r => g_at 42 113 L (r.1.toList ++ []) r.2.1 r.2.2.1 r.2.2.2) := gq_callV e_42_110 rfl rfl h rfl rfl rfl rfl rfl
theorem e_42_113 : g_Pg 42 113 = ga_call 48 1 116 := (congrFun pg_42 113).trans rfl
theorem q_42_113 {L : List Value} {a0 : Int32} {Z : gZ} {I : gI} {J : gJ} : g_at 42 113 L [.int a0] Z I J = (g_at 48 0 [.int a0] [] Z I J).bind (fun r => g_at 42 116 L (r.1.toList ++ []) r.2.1 r.2.2.1 r.2.2.2) := gq_call e_42_113 rfl rfl rfl rfl rfl
theorem e_42_116 : g_Pg 42 116 = ga_if (fun x => decide (x = 0)) 157 119 := (congrFun pg_42 116).trans rfl
theorem q_42_116 {L : List Value} {x : Int32} {S : List Value} {Z : gZ} {I : gI} {J : gJ} : g_at 42 116 L (.int x :: S) Z I J = if x = 0 then g_at 42 157 L S Z I J else g_at 42 119 L S Z I J := gq_if e_42_116 rfl
theorem e_42_119 : g_Pg 42 119 = ga_aload 0 120 := (congrFun pg_42 119).trans rfl
theorem q_42_119 {x : Nat} {S : List Value} {Z : gZ} {I : gI} {J : gJ} : g_at 42 119 [.ref x] S Z I J = g_at 42 120 [.ref x] (.ref x :: S) Z I J := gq_aload e_42_119 rfl
theorem e_42_120 : g_Pg 42 120 = ga_getI 4 4 123 := (congrFun pg_42 120).trans rfl
theorem q_42_120 {L : List Value} {a : Nat} {S : List Value} {Z : gZ} {I : gI} {J : gJ} (h : (gKd Z a).1 = 4) : g_at 42 120 L (.ref a :: S) Z I J = g_at 42 123 L (.int (I a 4) :: S) Z I J := gq_getI e_42_120 h
theorem e_42_123 : g_Pg 42 123 = ga_aload 0 124 := (congrFun pg_42 123).trans rfl
theorem q_42_123 {x : Nat} {S : List Value} {Z : gZ} {I : gI} {J : gJ} : g_at 42 123 [.ref x] S Z I J = g_at 42 124 [.ref x] (.ref x :: S) Z I J := gq_aload e_42_123 rfl
theorem e_42_124 : g_Pg 42 124 = ga_getI 4 1 127 := (congrFun pg_42 124).trans rfl
theorem q_42_124 {L : List Value} {a : Nat} {S : List Value} {Z : gZ} {I : gI} {J : gJ} (h : (gKd Z a).1 = 4) : g_at 42 124 L (.ref a :: S) Z I J = g_at 42 127 L (.int (I a 1) :: S) Z I J := gq_getI e_42_124 h
theorem e_42_127 : g_Pg 42 127 = ga_cmp (fun x y => decide (y ≤ x)) 178 130 := (congrFun pg_42 127).trans rfl
theorem q_42_127 {L : List Value} {x y : Int32} {S : List Value} {Z : gZ} {I : gI} {J : gJ} : g_at 42 127 L (.int y :: .int x :: S) Z I J = if y ≤ x then g_at 42 178 L S Z I J else g_at 42 130 L S Z I J := gq_cmp e_42_127 rfl
theorem e_42_130 : g_Pg 42 130 = ga_aload 0 131 := (congrFun pg_42 130).trans rfl
theorem q_42_130 {x : Nat} {S : List Value} {Z : gZ} {I : gI} {J : gJ} : g_at 42 130 [.ref x] S Z I J = g_at 42 131 [.ref x] (.ref x :: S) Z I J := gq_aload e_42_130 rfl
theorem e_42_131 : g_Pg 42 131 = ga_aload 0 132 := (congrFun pg_42 131).trans rfl
theorem q_42_131 {x : Nat} {S : List Value} {Z : gZ} {I : gI} {J : gJ} : g_at 42 131 [.ref x] S Z I J = g_at 42 132 [.ref x] (.ref x :: S) Z I J := gq_aload e_42_131 rfl
theorem e_42_132 : g_Pg 42 132 = ga_getI 4 4 135 := (congrFun pg_42 132).trans rfl
theorem q_42_132 {L : List Value} {a : Nat} {S : List Value} {Z : gZ} {I : gI} {J : gJ} (h : (gKd Z a).1 = 4) : g_at 42 132 L (.ref a :: S) Z I J = g_at 42 135 L (.int (I a 4) :: S) Z I J := gq_getI e_42_132 h
theorem e_42_135 : g_Pg 42 135 = ga_callV 4 49 1 138 := (congrFun pg_42 135).trans rfl
theorem q_42_135 {L : List Value} {a0 : Int32} {a1 : Nat} {Z : gZ} {I : gI} {J : gJ} (h : (gKd Z a1).1 = 4) : g_at 42 135 L [.int a0, .ref a1] Z I J = (g_at 49 0 [.ref a1, .int a0] [] Z I J).bind (fun r => g_at 42 138 L (r.1.toList ++ []) r.2.1 r.2.2.1 r.2.2.2) := gq_callV e_42_135 rfl rfl h rfl rfl rfl rfl rfl
theorem e_42_138 : g_Pg 42 138 = ga_call 48 1 141 := (congrFun pg_42 138).trans rfl
theorem q_42_138 {L : List Value} {a0 : Int32} {Z : gZ} {I : gI} {J : gJ} : g_at 42 138 L [.int a0] Z I J = (g_at 48 0 [.int a0] [] Z I J).bind (fun r => g_at 42 141 L (r.1.toList ++ []) r.2.1 r.2.2.1 r.2.2.2) := gq_call e_42_138 rfl rfl rfl rfl rfl
theorem e_42_141 : g_Pg 42 141 = ga_if (fun x => decide (x = 0)) 178 144 := (congrFun pg_42 141).trans rfl
theorem q_42_141 {L : List Value} {x : Int32} {S : List Value} {Z : gZ} {I : gI} {J : gJ} : g_at 42 141 L (.int x :: S) Z I J = if x = 0 then g_at 42 178 L S Z I J else g_at 42 144 L S Z I J := gq_if e_42_141 rfl
theorem e_42_144 : g_Pg 42 144 = ga_aload 0 145 := (congrFun pg_42 144).trans rfl
theorem q_42_144 {x : Nat} {S : List Value} {Z : gZ} {I : gI} {J : gJ} : g_at 42 144 [.ref x] S Z I J = g_at 42 145 [.ref x] (.ref x :: S) Z I J := gq_aload e_42_144 rfl
theorem e_42_145 : g_Pg 42 145 = ga_dup 146 := (congrFun pg_42 145).trans rfl
theorem q_42_145 {L : List Value} {x : Nat} {S : List Value} {Z : gZ} {I : gI} {J : gJ} : g_at 42 145 L (.ref x :: S) Z I J = g_at 42 146 L (.ref x :: .ref x :: S) Z I J := gq_dup e_42_145
theorem e_42_146 : g_Pg 42 146 = ga_getI 4 4 149 := (congrFun pg_42 146).trans rfl
theorem q_42_146 {L : List Value} {a : Nat} {S : List Value} {Z : gZ} {I : gI} {J : gJ} (h : (gKd Z a).1 = 4) : g_at 42 146 L (.ref a :: S) Z I J = g_at 42 149 L (.int (I a 4) :: S) Z I J := gq_getI e_42_146 h
theorem e_42_149 : g_Pg 42 149 = ga_push (.int 1) 150 := (congrFun pg_42 149).trans rfl
theorem q_42_149 {L : List Value} {S : List Value} {Z : gZ} {I : gI} {J : gJ} : g_at 42 149 L S Z I J = g_at 42 150 L (.int 1 :: S) Z I J := gq_push e_42_149
theorem e_42_150 : g_Pg 42 150 = ga_bin (fun x y => x + y) 151 := (congrFun pg_42 150).trans rfl
theorem q_42_150 {L : List Value} {x y : Int32} {S : List Value} {Z : gZ} {I : gI} {J : gJ} : g_at 42 150 L (.int y :: .int x :: S) Z I J = g_at 42 151 L (.int (x + y) :: S) Z I J := gq_bin e_42_150
theorem e_42_151 : g_Pg 42 151 = ga_putI 4 4 154 := (congrFun pg_42 151).trans rfl
theorem q_42_151 {L : List Value} {a : Nat} {v : Int32} {S : List Value} {Z : gZ} {I : gI} {J : gJ} (h : (gKd Z a).1 = 4) : g_at 42 151 L (.int v :: .ref a :: S) Z I J = g_at 42 154 L S Z (va_up I a (va_up (I a) 4 v)) J := gq_putI e_42_151 h
theorem e_42_154 : g_Pg 42 154 = ga_goto 119 := (congrFun pg_42 154).trans rfl
theorem q_42_154 {L : List Value} {S : List Value} {Z : gZ} {I : gI} {J : gJ} : g_at 42 154 L S Z I J = g_at 42 119 L S Z I J := gq_goto e_42_154
theorem e_42_157 : g_Pg 42 157 = ga_aload 0 158 := (congrFun pg_42 157).trans rfl
theorem q_42_157 {x : Nat} {S : List Value} {Z : gZ} {I : gI} {J : gJ} : g_at 42 157 [.ref x] S Z I J = g_at 42 158 [.ref x] (.ref x :: S) Z I J := gq_aload e_42_157 rfl
theorem e_42_158 : g_Pg 42 158 = ga_getI 4 4 161 := (congrFun pg_42 158).trans rfl
theorem q_42_158 {L : List Value} {a : Nat} {S : List Value} {Z : gZ} {I : gI} {J : gJ} (h : (gKd Z a).1 = 4) : g_at 42 158 L (.ref a :: S) Z I J = g_at 42 161 L (.int (I a 4) :: S) Z I J := gq_getI e_42_158 h
theorem e_42_161 : g_Pg 42 161 = ga_aload 0 162 := (congrFun pg_42 161).trans rfl
theorem q_42_161 {x : Nat} {S : List Value} {Z : gZ} {I : gI} {J : gJ} : g_at 42 161 [.ref x] S Z I J = g_at 42 162 [.ref x] (.ref x :: S) Z I J := gq_aload e_42_161 rfl
theorem e_42_162 : g_Pg 42 162 = ga_getI 4 1 165 := (congrFun pg_42 162).trans rfl
theorem q_42_162 {L : List Value} {a : Nat} {S : List Value} {Z : gZ} {I : gI} {J : gJ} (h : (gKd Z a).1 = 4) : g_at 42 162 L (.ref a :: S) Z I J = g_at 42 165 L (.int (I a 1) :: S) Z I J := gq_getI e_42_162 h
theorem e_42_165 : g_Pg 42 165 = ga_cmp (fun x y => decide (y ≤ x)) 178 168 := (congrFun pg_42 165).trans rfl
theorem q_42_165 {L : List Value} {x y : Int32} {S : List Value} {Z : gZ} {I : gI} {J : gJ} : g_at 42 165 L (.int y :: .int x :: S) Z I J = if y ≤ x then g_at 42 178 L S Z I J else g_at 42 168 L S Z I J := gq_cmp e_42_165 rfl
theorem e_42_168 : g_Pg 42 168 = ga_aload 0 169 := (congrFun pg_42 168).trans rfl
theorem q_42_168 {x : Nat} {S : List Value} {Z : gZ} {I : gI} {J : gJ} : g_at 42 168 [.ref x] S Z I J = g_at 42 169 [.ref x] (.ref x :: S) Z I J := gq_aload e_42_168 rfl
theorem e_42_169 : g_Pg 42 169 = ga_dup 170 := (congrFun pg_42 169).trans rfl
theorem q_42_169 {L : List Value} {x : Nat} {S : List Value} {Z : gZ} {I : gI} {J : gJ} : g_at 42 169 L (.ref x :: S) Z I J = g_at 42 170 L (.ref x :: .ref x :: S) Z I J := gq_dup e_42_169
theorem e_42_170 : g_Pg 42 170 = ga_getI 4 4 173 := (congrFun pg_42 170).trans rfl
theorem q_42_170 {L : List Value} {a : Nat} {S : List Value} {Z : gZ} {I : gI} {J : gJ} (h : (gKd Z a).1 = 4) : g_at 42 170 L (.ref a :: S) Z I J = g_at 42 173 L (.int (I a 4) :: S) Z I J := gq_getI e_42_170 h
theorem e_42_173 : g_Pg 42 173 = ga_push (.int 1) 174 := (congrFun pg_42 173).trans rfl
theorem q_42_173 {L : List Value} {S : List Value} {Z : gZ} {I : gI} {J : gJ} : g_at 42 173 L S Z I J = g_at 42 174 L (.int 1 :: S) Z I J := gq_push e_42_173
theorem e_42_174 : g_Pg 42 174 = ga_bin (fun x y => x + y) 175 := (congrFun pg_42 174).trans rfl
theorem q_42_174 {L : List Value} {x y : Int32} {S : List Value} {Z : gZ} {I : gI} {J : gJ} : g_at 42 174 L (.int y :: .int x :: S) Z I J = g_at 42 175 L (.int (x + y) :: S) Z I J := gq_bin e_42_174
theorem e_42_175 : g_Pg 42 175 = ga_putI 4 4 178 := (congrFun pg_42 175).trans rfl
theorem q_42_175 {L : List Value} {a : Nat} {v : Int32} {S : List Value} {Z : gZ} {I : gI} {J : gJ} (h : (gKd Z a).1 = 4) : g_at 42 175 L (.int v :: .ref a :: S) Z I J = g_at 42 178 L S Z (va_up I a (va_up (I a) 4 v)) J := gq_putI e_42_175 h
theorem e_42_178 : g_Pg 42 178 = ga_vret := (congrFun pg_42 178).trans rfl
theorem q_42_178 {L : List Value} {Z : gZ} {I : gI} {J : gJ} : g_at 42 178 L [] Z I J = some (none, Z, I, J) := gq_vret e_42_178
theorem e_43_0 : g_Pg 43 0 = ga_aload 0 1 := (congrFun pg_43 0).trans rfl
theorem q_43_0 {l1 l2 l3 : Value} {x : Nat} {S : List Value} {Z : gZ} {I : gI} {J : gJ} : g_at 43 0 [.ref x, l1, l2, l3] S Z I J = g_at 43 1 [.ref x, l1, l2, l3] (.ref x :: S) Z I J := gq_aload e_43_0 rfl
theorem e_43_1 : g_Pg 43 1 = ga_callV 4 42 0 4 := (congrFun pg_43 1).trans rfl
theorem q_43_1 {L : List Value} {a0 : Nat} {Z : gZ} {I : gI} {J : gJ} (h : (gKd Z a0).1 = 4) : g_at 43 1 L [.ref a0] Z I J = (g_at 42 0 [.ref a0] [] Z I J).bind (fun r => g_at 43 4 L (r.1.toList ++ []) r.2.1 r.2.2.1 r.2.2.2) := gq_callV e_43_1 rfl rfl h rfl rfl rfl rfl rfl
theorem e_43_4 : g_Pg 43 4 = ga_aload 0 5 := (congrFun pg_43 4).trans rfl
theorem q_43_4 {l1 l2 l3 : Value} {x : Nat} {S : List Value} {Z : gZ} {I : gI} {J : gJ} : g_at 43 4 [.ref x, l1, l2, l3] S Z I J = g_at 43 5 [.ref x, l1, l2, l3] (.ref x :: S) Z I J := gq_aload e_43_4 rfl
theorem e_43_5 : g_Pg 43 5 = ga_aload 0 6 := (congrFun pg_43 5).trans rfl
theorem q_43_5 {l1 l2 l3 : Value} {x : Nat} {S : List Value} {Z : gZ} {I : gI} {J : gJ} : g_at 43 5 [.ref x, l1, l2, l3] S Z I J = g_at 43 6 [.ref x, l1, l2, l3] (.ref x :: S) Z I J := gq_aload e_43_5 rfl
theorem e_43_6 : g_Pg 43 6 = ga_getI 4 3 9 := (congrFun pg_43 6).trans rfl
theorem q_43_6 {L : List Value} {a : Nat} {S : List Value} {Z : gZ} {I : gI} {J : gJ} (h : (gKd Z a).1 = 4) : g_at 43 6 L (.ref a :: S) Z I J = g_at 43 9 L (.int (I a 3) :: S) Z I J := gq_getI e_43_6 h
theorem e_43_9 : g_Pg 43 9 = ga_callV 4 49 1 12 := (congrFun pg_43 9).trans rfl
theorem q_43_9 {L : List Value} {a0 : Int32} {a1 : Nat} {Z : gZ} {I : gI} {J : gJ} (h : (gKd Z a1).1 = 4) : g_at 43 9 L [.int a0, .ref a1] Z I J = (g_at 49 0 [.ref a1, .int a0] [] Z I J).bind (fun r => g_at 43 12 L (r.1.toList ++ []) r.2.1 r.2.2.1 r.2.2.2) := gq_callV e_43_9 rfl rfl h rfl rfl rfl rfl rfl
theorem e_43_12 : g_Pg 43 12 = ga_call 48 1 15 := (congrFun pg_43 12).trans rfl
theorem q_43_12 {L : List Value} {a0 : Int32} {Z : gZ} {I : gI} {J : gJ} : g_at 43 12 L [.int a0] Z I J = (g_at 48 0 [.int a0] [] Z I J).bind (fun r => g_at 43 15 L (r.1.toList ++ []) r.2.1 r.2.2.1 r.2.2.2) := gq_call e_43_12 rfl rfl rfl rfl rfl
theorem e_43_15 : g_Pg 43 15 = ga_if (fun x => decide (x = 0)) 31 18 := (congrFun pg_43 15).trans rfl
theorem q_43_15 {L : List Value} {x : Int32} {S : List Value} {Z : gZ} {I : gI} {J : gJ} : g_at 43 15 L (.int x :: S) Z I J = if x = 0 then g_at 43 31 L S Z I J else g_at 43 18 L S Z I J := gq_if e_43_15 rfl
theorem e_43_18 : g_Pg 43 18 = ga_aload 0 19 := (congrFun pg_43 18).trans rfl
theorem q_43_18 {l1 l2 l3 : Value} {x : Nat} {S : List Value} {Z : gZ} {I : gI} {J : gJ} : g_at 43 18 [.ref x, l1, l2, l3] S Z I J = g_at 43 19 [.ref x, l1, l2, l3] (.ref x :: S) Z I J := gq_aload e_43_18 rfl
theorem e_43_19 : g_Pg 43 19 = ga_getI 4 4 22 := (congrFun pg_43 19).trans rfl
theorem q_43_19 {L : List Value} {a : Nat} {S : List Value} {Z : gZ} {I : gI} {J : gJ} (h : (gKd Z a).1 = 4) : g_at 43 19 L (.ref a :: S) Z I J = g_at 43 22 L (.int (I a 4) :: S) Z I J := gq_getI e_43_19 h
theorem e_43_22 : g_Pg 43 22 = ga_aload 0 23 := (congrFun pg_43 22).trans rfl
theorem q_43_22 {l1 l2 l3 : Value} {x : Nat} {S : List Value} {Z : gZ} {I : gI} {J : gJ} : g_at 43 22 [.ref x, l1, l2, l3] S Z I J = g_at 43 23 [.ref x, l1, l2, l3] (.ref x :: S) Z I J := gq_aload e_43_22 rfl
theorem e_43_23 : g_Pg 43 23 = ga_getI 4 3 26 := (congrFun pg_43 23).trans rfl
theorem q_43_23 {L : List Value} {a : Nat} {S : List Value} {Z : gZ} {I : gI} {J : gJ} (h : (gKd Z a).1 = 4) : g_at 43 23 L (.ref a :: S) Z I J = g_at 43 26 L (.int (I a 3) :: S) Z I J := gq_getI e_43_23 h
theorem e_43_26 : g_Pg 43 26 = ga_bin (fun x y => x - y) 27 := (congrFun pg_43 26).trans rfl
theorem q_43_26 {L : List Value} {x y : Int32} {S : List Value} {Z : gZ} {I : gI} {J : gJ} : g_at 43 26 L (.int y :: .int x :: S) Z I J = g_at 43 27 L (.int (x - y) :: S) Z I J := gq_bin e_43_26
theorem e_43_27 : g_Pg 43 27 = ga_push (.int 2) 28 := (congrFun pg_43 27).trans rfl
theorem q_43_27 {L : List Value} {S : List Value} {Z : gZ} {I : gI} {J : gJ} : g_at 43 27 L S Z I J = g_at 43 28 L (.int 2 :: S) Z I J := gq_push e_43_27
theorem e_43_28 : g_Pg 43 28 = ga_cmp (fun x y => decide (x ≤ y)) 33 31 := (congrFun pg_43 28).trans rfl
theorem q_43_28 {L : List Value} {x y : Int32} {S : List Value} {Z : gZ} {I : gI} {J : gJ} : g_at 43 28 L (.int y :: .int x :: S) Z I J = if x ≤ y then g_at 43 33 L S Z I J else g_at 43 31 L S Z I J := gq_cmp e_43_28 rfl
theorem e_43_31 : g_Pg 43 31 = ga_push (.int 0) 32 := (congrFun pg_43 31).trans rfl
theorem q_43_31 {L : List Value} {S : List Value} {Z : gZ} {I : gI} {J : gJ} : g_at 43 31 L S Z I J = g_at 43 32 L (.int 0 :: S) Z I J := gq_push e_43_31
theorem e_43_32 : g_Pg 43 32 = ga_zret := (congrFun pg_43 32).trans rfl
theorem q_43_32 {L : List Value} {x : Int32} {Z : gZ} {I : gI} {J : gJ} (h : gB01 x = true) : g_at 43 32 L [.int x] Z I J = some (some (.int x), Z, I, J) := gq_zret e_43_32 h
theorem e_43_33 : g_Pg 43 33 = ga_aload 0 34 := (congrFun pg_43 33).trans rfl
theorem q_43_33 {l1 l2 l3 : Value} {x : Nat} {S : List Value} {Z : gZ} {I : gI} {J : gJ} : g_at 43 33 [.ref x, l1, l2, l3] S Z I J = g_at 43 34 [.ref x, l1, l2, l3] (.ref x :: S) Z I J := gq_aload e_43_33 rfl
theorem e_43_34 : g_Pg 43 34 = ga_push (.int 0) 35 := (congrFun pg_43 34).trans rfl
theorem q_43_34 {L : List Value} {S : List Value} {Z : gZ} {I : gI} {J : gJ} : g_at 43 34 L S Z I J = g_at 43 35 L (.int 0 :: S) Z I J := gq_push e_43_34
theorem e_43_35 : g_Pg 43 35 = ga_putI 4 5 38 := (congrFun pg_43 35).trans rfl
theorem q_43_35 {L : List Value} {a : Nat} {v : Int32} {S : List Value} {Z : gZ} {I : gI} {J : gJ} (h : (gKd Z a).1 = 4) : g_at 43 35 L (.int v :: .ref a :: S) Z I J = g_at 43 38 L S Z (va_up I a (va_up (I a) 5 v)) J := gq_putI e_43_35 h
theorem e_43_38 : g_Pg 43 38 = ga_aload 0 39 := (congrFun pg_43 38).trans rfl
theorem q_43_38 {l1 l2 l3 : Value} {x : Nat} {S : List Value} {Z : gZ} {I : gI} {J : gJ} : g_at 43 38 [.ref x, l1, l2, l3] S Z I J = g_at 43 39 [.ref x, l1, l2, l3] (.ref x :: S) Z I J := gq_aload e_43_38 rfl
theorem e_43_39 : g_Pg 43 39 = ga_getI 4 3 42 := (congrFun pg_43 39).trans rfl
theorem q_43_39 {L : List Value} {a : Nat} {S : List Value} {Z : gZ} {I : gI} {J : gJ} (h : (gKd Z a).1 = 4) : g_at 43 39 L (.ref a :: S) Z I J = g_at 43 42 L (.int (I a 3) :: S) Z I J := gq_getI e_43_39 h
theorem e_43_42 : g_Pg 43 42 = ga_istore 3 43 := (congrFun pg_43 42).trans rfl
theorem q_43_42 {l0 l1 l2 l3 : Value} {x : Int32} {S : List Value} {Z : gZ} {I : gI} {J : gJ} (h : gN1 l2 = true) : g_at 43 42 [l0, l1, l2, l3] (.int x :: S) Z I J = g_at 43 43 [l0, l1, l2, .int x] S Z I J := gq_istore e_43_42 h rfl rfl
theorem e_43_43 : g_Pg 43 43 = ga_iload 3 44 := (congrFun pg_43 43).trans rfl
theorem q_43_43 {l0 l1 l2 : Value} {x : Int32} {S : List Value} {Z : gZ} {I : gI} {J : gJ} : g_at 43 43 [l0, l1, l2, .int x] S Z I J = g_at 43 44 [l0, l1, l2, .int x] (.int x :: S) Z I J := gq_iload e_43_43 rfl
theorem e_43_44 : g_Pg 43 44 = ga_aload 0 45 := (congrFun pg_43 44).trans rfl
theorem q_43_44 {l1 l2 l3 : Value} {x : Nat} {S : List Value} {Z : gZ} {I : gI} {J : gJ} : g_at 43 44 [.ref x, l1, l2, l3] S Z I J = g_at 43 45 [.ref x, l1, l2, l3] (.ref x :: S) Z I J := gq_aload e_43_44 rfl
theorem e_43_45 : g_Pg 43 45 = ga_getI 4 4 48 := (congrFun pg_43 45).trans rfl
theorem q_43_45 {L : List Value} {a : Nat} {S : List Value} {Z : gZ} {I : gI} {J : gJ} (h : (gKd Z a).1 = 4) : g_at 43 45 L (.ref a :: S) Z I J = g_at 43 48 L (.int (I a 4) :: S) Z I J := gq_getI e_43_45 h
theorem e_43_48 : g_Pg 43 48 = ga_cmp (fun x y => decide (y ≤ x)) 77 51 := (congrFun pg_43 48).trans rfl
theorem q_43_48 {L : List Value} {x y : Int32} {S : List Value} {Z : gZ} {I : gI} {J : gJ} : g_at 43 48 L (.int y :: .int x :: S) Z I J = if y ≤ x then g_at 43 77 L S Z I J else g_at 43 51 L S Z I J := gq_cmp e_43_48 rfl
theorem e_43_51 : g_Pg 43 51 = ga_aload 0 52 := (congrFun pg_43 51).trans rfl
theorem q_43_51 {l1 l2 l3 : Value} {x : Nat} {S : List Value} {Z : gZ} {I : gI} {J : gJ} : g_at 43 51 [.ref x, l1, l2, l3] S Z I J = g_at 43 52 [.ref x, l1, l2, l3] (.ref x :: S) Z I J := gq_aload e_43_51 rfl
theorem e_43_52 : g_Pg 43 52 = ga_aload 0 53 := (congrFun pg_43 52).trans rfl
theorem q_43_52 {l1 l2 l3 : Value} {x : Nat} {S : List Value} {Z : gZ} {I : gI} {J : gJ} : g_at 43 52 [.ref x, l1, l2, l3] S Z I J = g_at 43 53 [.ref x, l1, l2, l3] (.ref x :: S) Z I J := gq_aload e_43_52 rfl
theorem e_43_53 : g_Pg 43 53 = ga_getI 4 5 56 := (congrFun pg_43 53).trans rfl
theorem q_43_53 {L : List Value} {a : Nat} {S : List Value} {Z : gZ} {I : gI} {J : gJ} (h : (gKd Z a).1 = 4) : g_at 43 53 L (.ref a :: S) Z I J = g_at 43 56 L (.int (I a 5) :: S) Z I J := gq_getI e_43_53 h
theorem e_43_56 : g_Pg 43 56 = ga_push (.int 10) 58 := (congrFun pg_43 56).trans rfl
theorem q_43_56 {L : List Value} {S : List Value} {Z : gZ} {I : gI} {J : gJ} : g_at 43 56 L S Z I J = g_at 43 58 L (.int 10 :: S) Z I J := gq_push e_43_56
theorem e_43_58 : g_Pg 43 58 = ga_bin (fun x y => x * y) 59 := (congrFun pg_43 58).trans rfl
theorem q_43_58 {L : List Value} {x y : Int32} {S : List Value} {Z : gZ} {I : gI} {J : gJ} : g_at 43 58 L (.int y :: .int x :: S) Z I J = g_at 43 59 L (.int (x * y) :: S) Z I J := gq_bin e_43_58
theorem e_43_59 : g_Pg 43 59 = ga_aload 0 60 := (congrFun pg_43 59).trans rfl
theorem q_43_59 {l1 l2 l3 : Value} {x : Nat} {S : List Value} {Z : gZ} {I : gI} {J : gJ} : g_at 43 59 [.ref x, l1, l2, l3] S Z I J = g_at 43 60 [.ref x, l1, l2, l3] (.ref x :: S) Z I J := gq_aload e_43_59 rfl
theorem e_43_60 : g_Pg 43 60 = ga_iload 3 61 := (congrFun pg_43 60).trans rfl
theorem q_43_60 {l0 l1 l2 : Value} {x : Int32} {S : List Value} {Z : gZ} {I : gI} {J : gJ} : g_at 43 60 [l0, l1, l2, .int x] S Z I J = g_at 43 61 [l0, l1, l2, .int x] (.int x :: S) Z I J := gq_iload e_43_60 rfl
theorem e_43_61 : g_Pg 43 61 = ga_callV 4 49 1 64 := (congrFun pg_43 61).trans rfl
theorem q_43_61 {L : List Value} {a0 : Int32} {a1 : Nat} {r2 : Int32} {r3 : Nat} {Z : gZ} {I : gI} {J : gJ} (h : (gKd Z a1).1 = 4) : g_at 43 61 L [.int a0, .ref a1, .int r2, .ref r3] Z I J = (g_at 49 0 [.ref a1, .int a0] [] Z I J).bind (fun r => g_at 43 64 L (r.1.toList ++ [.int r2, .ref r3]) r.2.1 r.2.2.1 r.2.2.2) := gq_callV e_43_61 rfl rfl h rfl rfl rfl rfl rfl
theorem e_43_64 : g_Pg 43 64 = ga_bin (fun x y => x + y) 65 := (congrFun pg_43 64).trans rfl
theorem q_43_64 {L : List Value} {x y : Int32} {S : List Value} {Z : gZ} {I : gI} {J : gJ} : g_at 43 64 L (.int y :: .int x :: S) Z I J = g_at 43 65 L (.int (x + y) :: S) Z I J := gq_bin e_43_64
theorem e_43_65 : g_Pg 43 65 = ga_push (.int 48) 67 := (congrFun pg_43 65).trans rfl
theorem q_43_65 {L : List Value} {S : List Value} {Z : gZ} {I : gI} {J : gJ} : g_at 43 65 L S Z I J = g_at 43 67 L (.int 48 :: S) Z I J := gq_push e_43_65
theorem e_43_67 : g_Pg 43 67 = ga_bin (fun x y => x - y) 68 := (congrFun pg_43 67).trans rfl
theorem q_43_67 {L : List Value} {x y : Int32} {S : List Value} {Z : gZ} {I : gI} {J : gJ} : g_at 43 67 L (.int y :: .int x :: S) Z I J = g_at 43 68 L (.int (x - y) :: S) Z I J := gq_bin e_43_67
theorem e_43_68 : g_Pg 43 68 = ga_putI 4 5 71 := (congrFun pg_43 68).trans rfl
theorem q_43_68 {L : List Value} {a : Nat} {v : Int32} {S : List Value} {Z : gZ} {I : gI} {J : gJ} (h : (gKd Z a).1 = 4) : g_at 43 68 L (.int v :: .ref a :: S) Z I J = g_at 43 71 L S Z (va_up I a (va_up (I a) 5 v)) J := gq_putI e_43_68 h
theorem e_43_71 : g_Pg 43 71 = ga_iinc 3 1 74 := (congrFun pg_43 71).trans rfl
theorem q_43_71 {l0 l1 l2 : Value} {x : Int32} {S : List Value} {Z : gZ} {I : gI} {J : gJ} (h : gN1 l2 = true) : g_at 43 71 [l0, l1, l2, .int x] S Z I J = g_at 43 74 [l0, l1, l2, .int (x + 1)] S Z I J := gq_iinc e_43_71 rfl h rfl
theorem e_43_74 : g_Pg 43 74 = ga_goto 43 := (congrFun pg_43 74).trans rfl
theorem q_43_74 {L : List Value} {S : List Value} {Z : gZ} {I : gI} {J : gJ} : g_at 43 74 L S Z I J = g_at 43 43 L S Z I J := gq_goto e_43_74
theorem e_43_77 : g_Pg 43 77 = ga_aload 0 78 := (congrFun pg_43 77).trans rfl
theorem q_43_77 {l1 l2 l3 : Value} {x : Nat} {S : List Value} {Z : gZ} {I : gI} {J : gJ} : g_at 43 77 [.ref x, l1, l2, l3] S Z I J = g_at 43 78 [.ref x, l1, l2, l3] (.ref x :: S) Z I J := gq_aload e_43_77 rfl
theorem e_43_78 : g_Pg 43 78 = ga_getI 4 5 81 := (congrFun pg_43 78).trans rfl
theorem q_43_78 {L : List Value} {a : Nat} {S : List Value} {Z : gZ} {I : gI} {J : gJ} (h : (gKd Z a).1 = 4) : g_at 43 78 L (.ref a :: S) Z I J = g_at 43 81 L (.int (I a 5) :: S) Z I J := gq_getI e_43_78 h
theorem e_43_81 : g_Pg 43 81 = ga_iload 1 82 := (congrFun pg_43 81).trans rfl
theorem q_43_81 {l0 l2 l3 : Value} {x : Int32} {S : List Value} {Z : gZ} {I : gI} {J : gJ} : g_at 43 81 [l0, .int x, l2, l3] S Z I J = g_at 43 82 [l0, .int x, l2, l3] (.int x :: S) Z I J := gq_iload e_43_81 rfl
theorem e_43_82 : g_Pg 43 82 = ga_cmp (fun x y => decide (x < y)) 97 85 := (congrFun pg_43 82).trans rfl
theorem q_43_82 {L : List Value} {x y : Int32} {S : List Value} {Z : gZ} {I : gI} {J : gJ} : g_at 43 82 L (.int y :: .int x :: S) Z I J = if x < y then g_at 43 97 L S Z I J else g_at 43 85 L S Z I J := gq_cmp e_43_82 rfl
theorem e_43_85 : g_Pg 43 85 = ga_aload 0 86 := (congrFun pg_43 85).trans rfl
theorem q_43_85 {l1 l2 l3 : Value} {x : Nat} {S : List Value} {Z : gZ} {I : gI} {J : gJ} : g_at 43 85 [.ref x, l1, l2, l3] S Z I J = g_at 43 86 [.ref x, l1, l2, l3] (.ref x :: S) Z I J := gq_aload e_43_85 rfl
theorem e_43_86 : g_Pg 43 86 = ga_getI 4 5 89 := (congrFun pg_43 86).trans rfl
theorem q_43_86 {L : List Value} {a : Nat} {S : List Value} {Z : gZ} {I : gI} {J : gJ} (h : (gKd Z a).1 = 4) : g_at 43 86 L (.ref a :: S) Z I J = g_at 43 89 L (.int (I a 5) :: S) Z I J := gq_getI e_43_86 h
theorem e_43_89 : g_Pg 43 89 = ga_iload 2 90 := (congrFun pg_43 89).trans rfl
theorem q_43_89 {l0 l1 l3 : Value} {x : Int32} {S : List Value} {Z : gZ} {I : gI} {J : gJ} : g_at 43 89 [l0, l1, .int x, l3] S Z I J = g_at 43 90 [l0, l1, .int x, l3] (.int x :: S) Z I J := gq_iload e_43_89 rfl
theorem e_43_90 : g_Pg 43 90 = ga_cmp (fun x y => decide (y < x)) 97 93 := (congrFun pg_43 90).trans rfl
theorem q_43_90 {L : List Value} {x y : Int32} {S : List Value} {Z : gZ} {I : gI} {J : gJ} : g_at 43 90 L (.int y :: .int x :: S) Z I J = if y < x then g_at 43 97 L S Z I J else g_at 43 93 L S Z I J := gq_cmp e_43_90 rfl
theorem e_43_93 : g_Pg 43 93 = ga_push (.int 1) 94 := (congrFun pg_43 93).trans rfl
theorem q_43_93 {L : List Value} {S : List Value} {Z : gZ} {I : gI} {J : gJ} : g_at 43 93 L S Z I J = g_at 43 94 L (.int 1 :: S) Z I J := gq_push e_43_93
theorem e_43_94 : g_Pg 43 94 = ga_goto 98 := (congrFun pg_43 94).trans rfl
theorem q_43_94 {L : List Value} {S : List Value} {Z : gZ} {I : gI} {J : gJ} : g_at 43 94 L S Z I J = g_at 43 98 L S Z I J := gq_goto e_43_94
theorem e_43_97 : g_Pg 43 97 = ga_push (.int 0) 98 := (congrFun pg_43 97).trans rfl
theorem q_43_97 {L : List Value} {S : List Value} {Z : gZ} {I : gI} {J : gJ} : g_at 43 97 L S Z I J = g_at 43 98 L (.int 0 :: S) Z I J := gq_push e_43_97
theorem e_43_98 : g_Pg 43 98 = ga_zret := (congrFun pg_43 98).trans rfl
theorem q_43_98 {L : List Value} {x : Int32} {Z : gZ} {I : gI} {J : gJ} (h : gB01 x = true) : g_at 43 98 L [.int x] Z I J = some (some (.int x), Z, I, J) := gq_zret e_43_98 h
theorem e_44_0 : g_Pg 44 0 = ga_push (.int 0) 1 := (congrFun pg_44 0).trans rfl
theorem q_44_0 {L : List Value} {S : List Value} {Z : gZ} {I : gI} {J : gJ} : g_at 44 0 L S Z I J = g_at 44 1 L (.int 0 :: S) Z I J := gq_push e_44_0
theorem e_44_1 : g_Pg 44 1 = ga_istore 1 2 := (congrFun pg_44 1).trans rfl
theorem q_44_1 {l0 l1 : Value} {x : Int32} {S : List Value} {Z : gZ} {I : gI} {J : gJ} (h : gN1 l0 = true) : g_at 44 1 [l0, l1] (.int x :: S) Z I J = g_at 44 2 [l0, .int x] S Z I J := gq_istore e_44_1 h rfl rfl
theorem e_44_2 : g_Pg 44 2 = ga_iload 1 3 := (congrFun pg_44 2).trans rfl
theorem q_44_2 {l0 : Value} {x : Int32} {S : List Value} {Z : gZ} {I : gI} {J : gJ} : g_at 44 2 [l0, .int x] S Z I J = g_at 44 3 [l0, .int x] (.int x :: S) Z I J := gq_iload e_44_2 rfl
theorem e_44_3 : g_Pg 44 3 = ga_push (.int 10) 5 := (congrFun pg_44 3).trans rfl
theorem q_44_3 {L : List Value} {S : List Value} {Z : gZ} {I : gI} {J : gJ} : g_at 44 3 L S Z I J = g_at 44 5 L (.int 10 :: S) Z I J := gq_push e_44_3
theorem e_44_5 : g_Pg 44 5 = ga_cmp (fun x y => decide (y ≤ x)) 27 8 := (congrFun pg_44 5).trans rfl
theorem q_44_5 {L : List Value} {x y : Int32} {S : List Value} {Z : gZ} {I : gI} {J : gJ} : g_at 44 5 L (.int y :: .int x :: S) Z I J = if y ≤ x then g_at 44 27 L S Z I J else g_at 44 8 L S Z I J := gq_cmp e_44_5 rfl
theorem e_44_8 : g_Pg 44 8 = ga_aload 0 9 := (congrFun pg_44 8).trans rfl
theorem q_44_8 {l1 : Value} {x : Nat} {S : List Value} {Z : gZ} {I : gI} {J : gJ} : g_at 44 8 [.ref x, l1] S Z I J = g_at 44 9 [.ref x, l1] (.ref x :: S) Z I J := gq_aload e_44_8 rfl
theorem e_44_9 : g_Pg 44 9 = ga_iload 1 10 := (congrFun pg_44 9).trans rfl
theorem q_44_9 {l0 : Value} {x : Int32} {S : List Value} {Z : gZ} {I : gI} {J : gJ} : g_at 44 9 [l0, .int x] S Z I J = g_at 44 10 [l0, .int x] (.int x :: S) Z I J := gq_iload e_44_9 rfl
theorem e_44_10 : g_Pg 44 10 = ga_call 46 1 13 := (congrFun pg_44 10).trans rfl
theorem q_44_10 {L : List Value} {a0 : Int32} {r1 : Nat} {Z : gZ} {I : gI} {J : gJ} : g_at 44 10 L [.int a0, .ref r1] Z I J = (g_at 46 0 [.int a0] [] Z I J).bind (fun r => g_at 44 13 L (r.1.toList ++ [.ref r1]) r.2.1 r.2.2.1 r.2.2.2) := gq_call e_44_10 rfl rfl rfl rfl rfl
theorem e_44_13 : g_Pg 44 13 = ga_callV 4 45 1 16 := (congrFun pg_44 13).trans rfl
theorem q_44_13 {L : List Value} {a0 : Nat} {a1 : Nat} {Z : gZ} {I : gI} {J : gJ} (h : (gKd Z a1).1 = 4) : g_at 44 13 L [.ref a0, .ref a1] Z I J = (g_at 45 0 [.ref a1, .ref a0, .null] [] Z I J).bind (fun r => g_at 44 16 L (r.1.toList ++ []) r.2.1 r.2.2.1 r.2.2.2) := gq_callV e_44_13 rfl rfl h rfl rfl rfl rfl rfl
theorem e_44_16 : g_Pg 44 16 = ga_if (fun x => decide (x = 0)) 21 19 := (congrFun pg_44 16).trans rfl
theorem q_44_16 {L : List Value} {x : Int32} {S : List Value} {Z : gZ} {I : gI} {J : gJ} : g_at 44 16 L (.int x :: S) Z I J = if x = 0 then g_at 44 21 L S Z I J else g_at 44 19 L S Z I J := gq_if e_44_16 rfl
theorem e_44_19 : g_Pg 44 19 = ga_iload 1 20 := (congrFun pg_44 19).trans rfl
theorem q_44_19 {l0 : Value} {x : Int32} {S : List Value} {Z : gZ} {I : gI} {J : gJ} : g_at 44 19 [l0, .int x] S Z I J = g_at 44 20 [l0, .int x] (.int x :: S) Z I J := gq_iload e_44_19 rfl
theorem e_44_20 : g_Pg 44 20 = ga_iret := (congrFun pg_44 20).trans rfl
theorem q_44_20 {L : List Value} {x : Int32} {Z : gZ} {I : gI} {J : gJ} : g_at 44 20 L [.int x] Z I J = some (some (.int x), Z, I, J) := gq_iret e_44_20
theorem e_44_21 : g_Pg 44 21 = ga_iinc 1 1 24 := (congrFun pg_44 21).trans rfl
theorem q_44_21 {l0 : Value} {x : Int32} {S : List Value} {Z : gZ} {I : gI} {J : gJ} (h : gN1 l0 = true) : g_at 44 21 [l0, .int x] S Z I J = g_at 44 24 [l0, .int (x + 1)] S Z I J := gq_iinc e_44_21 rfl h rfl
theorem e_44_24 : g_Pg 44 24 = ga_goto 2 := (congrFun pg_44 24).trans rfl
theorem q_44_24 {L : List Value} {S : List Value} {Z : gZ} {I : gI} {J : gJ} : g_at 44 24 L S Z I J = g_at 44 2 L S Z I J := gq_goto e_44_24
theorem e_44_27 : g_Pg 44 27 = ga_push (.int (-1)) 28 := (congrFun pg_44 27).trans rfl
theorem q_44_27 {L : List Value} {S : List Value} {Z : gZ} {I : gI} {J : gJ} : g_at 44 27 L S Z I J = g_at 44 28 L (.int (-1) :: S) Z I J := gq_push e_44_27
theorem e_44_28 : g_Pg 44 28 = ga_iret := (congrFun pg_44 28).trans rfl
theorem q_44_28 {L : List Value} {x : Int32} {Z : gZ} {I : gI} {J : gJ} : g_at 44 28 L [.int x] Z I J = some (some (.int x), Z, I, J) := gq_iret e_44_28
theorem e_45_0 : g_Pg 45 0 = ga_aload 0 1 := (congrFun pg_45 0).trans rfl
theorem q_45_0 {l1 l2 : Value} {x : Nat} {S : List Value} {Z : gZ} {I : gI} {J : gJ} : g_at 45 0 [.ref x, l1, l2] S Z I J = g_at 45 1 [.ref x, l1, l2] (.ref x :: S) Z I J := gq_aload e_45_0 rfl
theorem e_45_1 : g_Pg 45 1 = ga_getI 4 4 4 := (congrFun pg_45 1).trans rfl
theorem q_45_1 {L : List Value} {a : Nat} {S : List Value} {Z : gZ} {I : gI} {J : gJ} (h : (gKd Z a).1 = 4) : g_at 45 1 L (.ref a :: S) Z I J = g_at 45 4 L (.int (I a 4) :: S) Z I J := gq_getI e_45_1 h
theorem e_45_4 : g_Pg 45 4 = ga_aload 0 5 := (congrFun pg_45 4).trans rfl
theorem q_45_4 {l1 l2 : Value} {x : Nat} {S : List Value} {Z : gZ} {I : gI} {J : gJ} : g_at 45 4 [.ref x, l1, l2] S Z I J = g_at 45 5 [.ref x, l1, l2] (.ref x :: S) Z I J := gq_aload e_45_4 rfl
theorem e_45_5 : g_Pg 45 5 = ga_getI 4 3 8 := (congrFun pg_45 5).trans rfl
theorem q_45_5 {L : List Value} {a : Nat} {S : List Value} {Z : gZ} {I : gI} {J : gJ} (h : (gKd Z a).1 = 4) : g_at 45 5 L (.ref a :: S) Z I J = g_at 45 8 L (.int (I a 3) :: S) Z I J := gq_getI e_45_5 h
theorem e_45_8 : g_Pg 45 8 = ga_bin (fun x y => x - y) 9 := (congrFun pg_45 8).trans rfl
theorem q_45_8 {L : List Value} {x y : Int32} {S : List Value} {Z : gZ} {I : gI} {J : gJ} : g_at 45 8 L (.int y :: .int x :: S) Z I J = g_at 45 9 L (.int (x - y) :: S) Z I J := gq_bin e_45_8
theorem e_45_9 : g_Pg 45 9 = ga_aload 1 10 := (congrFun pg_45 9).trans rfl
theorem q_45_9 {l0 l2 : Value} {x : Nat} {S : List Value} {Z : gZ} {I : gI} {J : gJ} : g_at 45 9 [l0, .ref x, l2] S Z I J = g_at 45 10 [l0, .ref x, l2] (.ref x :: S) Z I J := gq_aload e_45_9 rfl
theorem e_45_10 : g_Pg 45 10 = ga_callV 12 134 0 13 := (congrFun pg_45 10).trans rfl
theorem q_45_10 {L : List Value} {a0 : Nat} {r1 : Int32} {Z : gZ} {I : gI} {J : gJ} (h : (gKd Z a0).1 = 12) (h1 : 1000 ≤ a0) : g_at 45 10 L [.ref a0, .int r1] Z I J = (g_at 134 0 [.ref a0] [] Z I J).bind (fun r => g_at 45 13 L (r.1.toList ++ [.int r1]) r.2.1 r.2.2.1 r.2.2.2) := gq_callT e_45_10 rfl h h1 rfl rfl rfl rfl rfl
theorem e_45_13 : g_Pg 45 13 = ga_cmp (fun x y => decide (x = y)) 18 16 := (congrFun pg_45 13).trans rfl
theorem q_45_13 {L : List Value} {x y : Int32} {S : List Value} {Z : gZ} {I : gI} {J : gJ} : g_at 45 13 L (.int y :: .int x :: S) Z I J = if x = y then g_at 45 18 L S Z I J else g_at 45 16 L S Z I J := gq_cmp e_45_13 rfl
theorem e_45_16 : g_Pg 45 16 = ga_push (.int 0) 17 := (congrFun pg_45 16).trans rfl
theorem q_45_16 {L : List Value} {S : List Value} {Z : gZ} {I : gI} {J : gJ} : g_at 45 16 L S Z I J = g_at 45 17 L (.int 0 :: S) Z I J := gq_push e_45_16
theorem e_45_17 : g_Pg 45 17 = ga_zret := (congrFun pg_45 17).trans rfl
theorem q_45_17 {L : List Value} {x : Int32} {Z : gZ} {I : gI} {J : gJ} (h : gB01 x = true) : g_at 45 17 L [.int x] Z I J = some (some (.int x), Z, I, J) := gq_zret e_45_17 h
theorem e_45_18 : g_Pg 45 18 = ga_push (.int 0) 19 := (congrFun pg_45 18).trans rfl
theorem q_45_18 {L : List Value} {S : List Value} {Z : gZ} {I : gI} {J : gJ} : g_at 45 18 L S Z I J = g_at 45 19 L (.int 0 :: S) Z I J := gq_push e_45_18
theorem e_45_19 : g_Pg 45 19 = ga_istore 2 20 := (congrFun pg_45 19).trans rfl
theorem q_45_19 {l0 l1 l2 : Value} {x : Int32} {S : List Value} {Z : gZ} {I : gI} {J : gJ} (h : gN1 l1 = true) : g_at 45 19 [l0, l1, l2] (.int x :: S) Z I J = g_at 45 20 [l0, l1, .int x] S Z I J := gq_istore e_45_19 h rfl rfl
theorem e_45_20 : g_Pg 45 20 = ga_iload 2 21 := (congrFun pg_45 20).trans rfl
theorem q_45_20 {l0 l1 : Value} {x : Int32} {S : List Value} {Z : gZ} {I : gI} {J : gJ} : g_at 45 20 [l0, l1, .int x] S Z I J = g_at 45 21 [l0, l1, .int x] (.int x :: S) Z I J := gq_iload e_45_20 rfl
theorem e_45_21 : g_Pg 45 21 = ga_aload 1 22 := (congrFun pg_45 21).trans rfl
theorem q_45_21 {l0 l2 : Value} {x : Nat} {S : List Value} {Z : gZ} {I : gI} {J : gJ} : g_at 45 21 [l0, .ref x, l2] S Z I J = g_at 45 22 [l0, .ref x, l2] (.ref x :: S) Z I J := gq_aload e_45_21 rfl
theorem e_45_22 : g_Pg 45 22 = ga_callV 12 134 0 25 := (congrFun pg_45 22).trans rfl
theorem q_45_22 {L : List Value} {a0 : Nat} {r1 : Int32} {Z : gZ} {I : gI} {J : gJ} (h : (gKd Z a0).1 = 12) (h1 : 1000 ≤ a0) : g_at 45 22 L [.ref a0, .int r1] Z I J = (g_at 134 0 [.ref a0] [] Z I J).bind (fun r => g_at 45 25 L (r.1.toList ++ [.int r1]) r.2.1 r.2.2.1 r.2.2.2) := gq_callT e_45_22 rfl h h1 rfl rfl rfl rfl rfl
theorem e_45_25 : g_Pg 45 25 = ga_cmp (fun x y => decide (y ≤ x)) 54 28 := (congrFun pg_45 25).trans rfl
theorem q_45_25 {L : List Value} {x y : Int32} {S : List Value} {Z : gZ} {I : gI} {J : gJ} : g_at 45 25 L (.int y :: .int x :: S) Z I J = if y ≤ x then g_at 45 54 L S Z I J else g_at 45 28 L S Z I J := gq_cmp e_45_25 rfl
theorem e_45_28 : g_Pg 45 28 = ga_aload 0 29 := (congrFun pg_45 28).trans rfl
theorem q_45_28 {l1 l2 : Value} {x : Nat} {S : List Value} {Z : gZ} {I : gI} {J : gJ} : g_at 45 28 [.ref x, l1, l2] S Z I J = g_at 45 29 [.ref x, l1, l2] (.ref x :: S) Z I J := gq_aload e_45_28 rfl
theorem e_45_29 : g_Pg 45 29 = ga_aload 0 30 := (congrFun pg_45 29).trans rfl
theorem q_45_29 {l1 l2 : Value} {x : Nat} {S : List Value} {Z : gZ} {I : gI} {J : gJ} : g_at 45 29 [.ref x, l1, l2] S Z I J = g_at 45 30 [.ref x, l1, l2] (.ref x :: S) Z I J := gq_aload e_45_29 rfl
theorem e_45_30 : g_Pg 45 30 = ga_getI 4 3 33 := (congrFun pg_45 30).trans rfl
theorem q_45_30 {L : List Value} {a : Nat} {S : List Value} {Z : gZ} {I : gI} {J : gJ} (h : (gKd Z a).1 = 4) : g_at 45 30 L (.ref a :: S) Z I J = g_at 45 33 L (.int (I a 3) :: S) Z I J := gq_getI e_45_30 h
theorem e_45_33 : g_Pg 45 33 = ga_iload 2 34 := (congrFun pg_45 33).trans rfl
theorem q_45_33 {l0 l1 : Value} {x : Int32} {S : List Value} {Z : gZ} {I : gI} {J : gJ} : g_at 45 33 [l0, l1, .int x] S Z I J = g_at 45 34 [l0, l1, .int x] (.int x :: S) Z I J := gq_iload e_45_33 rfl
theorem e_45_34 : g_Pg 45 34 = ga_bin (fun x y => x + y) 35 := (congrFun pg_45 34).trans rfl
theorem q_45_34 {L : List Value} {x y : Int32} {S : List Value} {Z : gZ} {I : gI} {J : gJ} : g_at 45 34 L (.int y :: .int x :: S) Z I J = g_at 45 35 L (.int (x + y) :: S) Z I J := gq_bin e_45_34
theorem e_45_35 : g_Pg 45 35 = ga_callV 4 49 1 38 := (congrFun pg_45 35).trans rfl
theorem q_45_35 {L : List Value} {a0 : Int32} {a1 : Nat} {Z : gZ} {I : gI} {J : gJ} (h : (gKd Z a1).1 = 4) : g_at 45 35 L [.int a0, .ref a1] Z I J = (g_at 49 0 [.ref a1, .int a0] [] Z I J).bind (fun r => g_at 45 38 L (r.1.toList ++ []) r.2.1 r.2.2.1 r.2.2.2) := gq_callV e_45_35 rfl rfl h rfl rfl rfl rfl rfl
theorem e_45_38 : g_Pg 45 38 = ga_aload 1 39 := (congrFun pg_45 38).trans rfl
theorem q_45_38 {l0 l2 : Value} {x : Nat} {S : List Value} {Z : gZ} {I : gI} {J : gJ} : g_at 45 38 [l0, .ref x, l2] S Z I J = g_at 45 39 [l0, .ref x, l2] (.ref x :: S) Z I J := gq_aload e_45_38 rfl
theorem e_45_39 : g_Pg 45 39 = ga_iload 2 40 := (congrFun pg_45 39).trans rfl
theorem q_45_39 {l0 l1 : Value} {x : Int32} {S : List Value} {Z : gZ} {I : gI} {J : gJ} : g_at 45 39 [l0, l1, .int x] S Z I J = g_at 45 40 [l0, l1, .int x] (.int x :: S) Z I J := gq_iload e_45_39 rfl
theorem e_45_40 : g_Pg 45 40 = ga_callV 12 135 1 43 := (congrFun pg_45 40).trans rfl
theorem q_45_40 {L : List Value} {a0 : Int32} {a1 : Nat} {r2 : Int32} {Z : gZ} {I : gI} {J : gJ} (h : (gKd Z a1).1 = 12) (h1 : 1000 ≤ a1) : g_at 45 40 L [.int a0, .ref a1, .int r2] Z I J = (g_at 135 0 [.ref a1, .int a0] [] Z I J).bind (fun r => g_at 45 43 L (r.1.toList ++ [.int r2]) r.2.1 r.2.2.1 r.2.2.2) := gq_callT e_45_40 rfl h h1 rfl rfl rfl rfl rfl
theorem e_45_43 : g_Pg 45 43 = ga_cmp (fun x y => decide (x = y)) 48 46 := (congrFun pg_45 43).trans rfl
theorem q_45_43 {L : List Value} {x y : Int32} {S : List Value} {Z : gZ} {I : gI} {J : gJ} : g_at 45 43 L (.int y :: .int x :: S) Z I J = if x = y then g_at 45 48 L S Z I J else g_at 45 46 L S Z I J := gq_cmp e_45_43 rfl
theorem e_45_46 : g_Pg 45 46 = ga_push (.int 0) 47 := (congrFun pg_45 46).trans rfl
theorem q_45_46 {L : List Value} {S : List Value} {Z : gZ} {I : gI} {J : gJ} : g_at 45 46 L S Z I J = g_at 45 47 L (.int 0 :: S) Z I J := gq_push e_45_46
theorem e_45_47 : g_Pg 45 47 = ga_zret := (congrFun pg_45 47).trans rfl
theorem q_45_47 {L : List Value} {x : Int32} {Z : gZ} {I : gI} {J : gJ} (h : gB01 x = true) : g_at 45 47 L [.int x] Z I J = some (some (.int x), Z, I, J) := gq_zret e_45_47 h
theorem e_45_48 : g_Pg 45 48 = ga_iinc 2 1 51 := (congrFun pg_45 48).trans rfl
theorem q_45_48 {l0 l1 : Value} {x : Int32} {S : List Value} {Z : gZ} {I : gI} {J : gJ} (h : gN1 l1 = true) : g_at 45 48 [l0, l1, .int x] S Z I J = g_at 45 51 [l0, l1, .int (x + 1)] S Z I J := gq_iinc e_45_48 rfl h rfl
theorem e_45_51 : g_Pg 45 51 = ga_goto 20 := (congrFun pg_45 51).trans rfl
theorem q_45_51 {L : List Value} {S : List Value} {Z : gZ} {I : gI} {J : gJ} : g_at 45 51 L S Z I J = g_at 45 20 L S Z I J := gq_goto e_45_51
theorem e_45_54 : g_Pg 45 54 = ga_push (.int 1) 55 := (congrFun pg_45 54).trans rfl
theorem q_45_54 {L : List Value} {S : List Value} {Z : gZ} {I : gI} {J : gJ} : g_at 45 54 L S Z I J = g_at 45 55 L (.int 1 :: S) Z I J := gq_push e_45_54
theorem e_45_55 : g_Pg 45 55 = ga_zret := (congrFun pg_45 55).trans rfl
theorem q_45_55 {L : List Value} {x : Int32} {Z : gZ} {I : gI} {J : gJ} (h : gB01 x = true) : g_at 45 55 L [.int x] Z I J = some (some (.int x), Z, I, J) := gq_zret e_45_55 h
theorem e_46_0 : g_Pg 46 0 = ga_iload 0 1 := (congrFun pg_46 0).trans rfl
theorem q_46_0 {x : Int32} {S : List Value} {Z : gZ} {I : gI} {J : gJ} : g_at 46 0 [.int x] S Z I J = g_at 46 1 [.int x] (.int x :: S) Z I J := gq_iload e_46_0 rfl
theorem e_46_1 : g_Pg 46 1 = ga_switch 0 [52, 55, 58, 61, 64, 67, 70, 73, 76] 79 := (congrFun pg_46 1).trans rfl
theorem q_46_1 {L : List Value} {x : Int32} {S : List Value} {Z : gZ} {I : gI} {J : gJ} : g_at 46 1 L (.int x :: S) Z I J = if x = 0 then g_at 46 52 L S Z I J else if x = 1 then g_at 46 55 L S Z I J else if x = 2 then g_at 46 58 L S Z I J else if x = 3 then g_at 46 61 L S Z I J else if x = 4 then g_at 46 64 L S Z I J else if x = 5 then g_at 46 67 L S Z I J else if x = 6 then g_at 46 70 L S Z I J else if x = 7 then g_at 46 73 L S Z I J else if x = 8 then g_at 46 76 L S Z I J else g_at 46 79 L S Z I J := (gq_switch e_46_1).trans (gsw_cons (F := fun q => g_at 46 q L S Z I J) (lo := 0) (lo' := 1) (v := 0) rfl rfl (gsw_cons (F := fun q => g_at 46 q L S Z I J) (lo := 1) (lo' := 2) (v := 1) rfl rfl (gsw_cons (F := fun q => g_at 46 q L S Z I J) (lo := 2) (lo' := 3) (v := 2) rfl rfl (gsw_cons (F := fun q => g_at 46 q L S Z I J) (lo := 3) (lo' := 4) (v := 3) rfl rfl (gsw_cons (F := fun q => g_at 46 q L S Z I J) (lo := 4) (lo' := 5) (v := 4) rfl rfl (gsw_cons (F := fun q => g_at 46 q L S Z I J) (lo := 5) (lo' := 6) (v := 5) rfl rfl (gsw_cons (F := fun q => g_at 46 q L S Z I J) (lo := 6) (lo' := 7) (v := 6) rfl rfl (gsw_cons (F := fun q => g_at 46 q L S Z I J) (lo := 7) (lo' := 8) (v := 7) rfl rfl (gsw_cons (F := fun q => g_at 46 q L S Z I J) (lo := 8) (lo' := 9) (v := 8) rfl rfl rfl)))))))))
theorem e_46_52 : g_Pg 46 52 = ga_push (.ref 1010) 54 := (congrFun pg_46 52).trans rfl
theorem q_46_52 {L : List Value} {S : List Value} {Z : gZ} {I : gI} {J : gJ} : g_at 46 52 L S Z I J = g_at 46 54 L (.ref 1010 :: S) Z I J := gq_push e_46_52
theorem e_46_54 : g_Pg 46 54 = ga_aret := (congrFun pg_46 54).trans rfl
theorem q_46_54 {L : List Value} {x : Nat} {Z : gZ} {I : gI} {J : gJ} : g_at 46 54 L [.ref x] Z I J = some (some (.ref x), Z, I, J) := gq_aret e_46_54
theorem e_46_55 : g_Pg 46 55 = ga_push (.ref 1011) 57 := (congrFun pg_46 55).trans rfl
theorem q_46_55 {L : List Value} {S : List Value} {Z : gZ} {I : gI} {J : gJ} : g_at 46 55 L S Z I J = g_at 46 57 L (.ref 1011 :: S) Z I J := gq_push e_46_55
theorem e_46_57 : g_Pg 46 57 = ga_aret := (congrFun pg_46 57).trans rfl
theorem q_46_57 {L : List Value} {x : Nat} {Z : gZ} {I : gI} {J : gJ} : g_at 46 57 L [.ref x] Z I J = some (some (.ref x), Z, I, J) := gq_aret e_46_57
theorem e_46_58 : g_Pg 46 58 = ga_push (.ref 1012) 60 := (congrFun pg_46 58).trans rfl
theorem q_46_58 {L : List Value} {S : List Value} {Z : gZ} {I : gI} {J : gJ} : g_at 46 58 L S Z I J = g_at 46 60 L (.ref 1012 :: S) Z I J := gq_push e_46_58
theorem e_46_60 : g_Pg 46 60 = ga_aret := (congrFun pg_46 60).trans rfl
theorem q_46_60 {L : List Value} {x : Nat} {Z : gZ} {I : gI} {J : gJ} : g_at 46 60 L [.ref x] Z I J = some (some (.ref x), Z, I, J) := gq_aret e_46_60
theorem e_46_61 : g_Pg 46 61 = ga_push (.ref 1013) 63 := (congrFun pg_46 61).trans rfl
theorem q_46_61 {L : List Value} {S : List Value} {Z : gZ} {I : gI} {J : gJ} : g_at 46 61 L S Z I J = g_at 46 63 L (.ref 1013 :: S) Z I J := gq_push e_46_61
theorem e_46_63 : g_Pg 46 63 = ga_aret := (congrFun pg_46 63).trans rfl
theorem q_46_63 {L : List Value} {x : Nat} {Z : gZ} {I : gI} {J : gJ} : g_at 46 63 L [.ref x] Z I J = some (some (.ref x), Z, I, J) := gq_aret e_46_63
theorem e_46_64 : g_Pg 46 64 = ga_push (.ref 1014) 66 := (congrFun pg_46 64).trans rfl
theorem q_46_64 {L : List Value} {S : List Value} {Z : gZ} {I : gI} {J : gJ} : g_at 46 64 L S Z I J = g_at 46 66 L (.ref 1014 :: S) Z I J := gq_push e_46_64
theorem e_46_66 : g_Pg 46 66 = ga_aret := (congrFun pg_46 66).trans rfl
theorem q_46_66 {L : List Value} {x : Nat} {Z : gZ} {I : gI} {J : gJ} : g_at 46 66 L [.ref x] Z I J = some (some (.ref x), Z, I, J) := gq_aret e_46_66
theorem e_46_67 : g_Pg 46 67 = ga_push (.ref 1015) 69 := (congrFun pg_46 67).trans rfl
theorem q_46_67 {L : List Value} {S : List Value} {Z : gZ} {I : gI} {J : gJ} : g_at 46 67 L S Z I J = g_at 46 69 L (.ref 1015 :: S) Z I J := gq_push e_46_67
theorem e_46_69 : g_Pg 46 69 = ga_aret := (congrFun pg_46 69).trans rfl
theorem q_46_69 {L : List Value} {x : Nat} {Z : gZ} {I : gI} {J : gJ} : g_at 46 69 L [.ref x] Z I J = some (some (.ref x), Z, I, J) := gq_aret e_46_69
theorem e_46_70 : g_Pg 46 70 = ga_push (.ref 1016) 72 := (congrFun pg_46 70).trans rfl
theorem q_46_70 {L : List Value} {S : List Value} {Z : gZ} {I : gI} {J : gJ} : g_at 46 70 L S Z I J = g_at 46 72 L (.ref 1016 :: S) Z I J := gq_push e_46_70
theorem e_46_72 : g_Pg 46 72 = ga_aret := (congrFun pg_46 72).trans rfl
theorem q_46_72 {L : List Value} {x : Nat} {Z : gZ} {I : gI} {J : gJ} : g_at 46 72 L [.ref x] Z I J = some (some (.ref x), Z, I, J) := gq_aret e_46_72
theorem e_46_73 : g_Pg 46 73 = ga_push (.ref 1017) 75 := (congrFun pg_46 73).trans rfl
theorem q_46_73 {L : List Value} {S : List Value} {Z : gZ} {I : gI} {J : gJ} : g_at 46 73 L S Z I J = g_at 46 75 L (.ref 1017 :: S) Z I J := gq_push e_46_73
theorem e_46_75 : g_Pg 46 75 = ga_aret := (congrFun pg_46 75).trans rfl
theorem q_46_75 {L : List Value} {x : Nat} {Z : gZ} {I : gI} {J : gJ} : g_at 46 75 L [.ref x] Z I J = some (some (.ref x), Z, I, J) := gq_aret e_46_75
theorem e_46_76 : g_Pg 46 76 = ga_push (.ref 1018) 78 := (congrFun pg_46 76).trans rfl
theorem q_46_76 {L : List Value} {S : List Value} {Z : gZ} {I : gI} {J : gJ} : g_at 46 76 L S Z I J = g_at 46 78 L (.ref 1018 :: S) Z I J := gq_push e_46_76
theorem e_46_78 : g_Pg 46 78 = ga_aret := (congrFun pg_46 78).trans rfl
theorem q_46_78 {L : List Value} {x : Nat} {Z : gZ} {I : gI} {J : gJ} : g_at 46 78 L [.ref x] Z I J = some (some (.ref x), Z, I, J) := gq_aret e_46_78
theorem e_46_79 : g_Pg 46 79 = ga_push (.ref 1019) 81 := (congrFun pg_46 79).trans rfl
theorem q_46_79 {L : List Value} {S : List Value} {Z : gZ} {I : gI} {J : gJ} : g_at 46 79 L S Z I J = g_at 46 81 L (.ref 1019 :: S) Z I J := gq_push e_46_79
theorem e_46_81 : g_Pg 46 81 = ga_aret := (congrFun pg_46 81).trans rfl
theorem q_46_81 {L : List Value} {x : Nat} {Z : gZ} {I : gI} {J : gJ} : g_at 46 81 L [.ref x] Z I J = some (some (.ref x), Z, I, J) := gq_aret e_46_81
theorem e_47_0 : g_Pg 47 0 = ga_iload 0 1 := (congrFun pg_47 0).trans rfl
theorem q_47_0 {x : Int32} {S : List Value} {Z : gZ} {I : gI} {J : gJ} : g_at 47 0 [.int x] S Z I J = g_at 47 1 [.int x] (.int x :: S) Z I J := gq_iload e_47_0 rfl
theorem e_47_1 : g_Pg 47 1 = ga_push (.int 97) 3 := (congrFun pg_47 1).trans rfl
theorem q_47_1 {L : List Value} {S : List Value} {Z : gZ} {I : gI} {J : gJ} : g_at 47 1 L S Z I J = g_at 47 3 L (.int 97 :: S) Z I J := gq_push e_47_1
theorem e_47_3 : g_Pg 47 3 = ga_cmp (fun x y => decide (x < y)) 16 6 := (congrFun pg_47 3).trans rfl
theorem q_47_3 {L : List Value} {x y : Int32} {S : List Value} {Z : gZ} {I : gI} {J : gJ} : g_at 47 3 L (.int y :: .int x :: S) Z I J = if x < y then g_at 47 16 L S Z I J else g_at 47 6 L S Z I J := gq_cmp e_47_3 rfl
theorem e_47_6 : g_Pg 47 6 = ga_iload 0 7 := (congrFun pg_47 6).trans rfl
theorem q_47_6 {x : Int32} {S : List Value} {Z : gZ} {I : gI} {J : gJ} : g_at 47 6 [.int x] S Z I J = g_at 47 7 [.int x] (.int x :: S) Z I J := gq_iload e_47_6 rfl
theorem e_47_7 : g_Pg 47 7 = ga_push (.int 122) 9 := (congrFun pg_47 7).trans rfl
theorem q_47_7 {L : List Value} {S : List Value} {Z : gZ} {I : gI} {J : gJ} : g_at 47 7 L S Z I J = g_at 47 9 L (.int 122 :: S) Z I J := gq_push e_47_7
theorem e_47_9 : g_Pg 47 9 = ga_cmp (fun x y => decide (y < x)) 16 12 := (congrFun pg_47 9).trans rfl
theorem q_47_9 {L : List Value} {x y : Int32} {S : List Value} {Z : gZ} {I : gI} {J : gJ} : g_at 47 9 L (.int y :: .int x :: S) Z I J = if y < x then g_at 47 16 L S Z I J else g_at 47 12 L S Z I J := gq_cmp e_47_9 rfl
theorem e_47_12 : g_Pg 47 12 = ga_push (.int 1) 13 := (congrFun pg_47 12).trans rfl
theorem q_47_12 {L : List Value} {S : List Value} {Z : gZ} {I : gI} {J : gJ} : g_at 47 12 L S Z I J = g_at 47 13 L (.int 1 :: S) Z I J := gq_push e_47_12
theorem e_47_13 : g_Pg 47 13 = ga_goto 17 := (congrFun pg_47 13).trans rfl
theorem q_47_13 {L : List Value} {S : List Value} {Z : gZ} {I : gI} {J : gJ} : g_at 47 13 L S Z I J = g_at 47 17 L S Z I J := gq_goto e_47_13
theorem e_47_16 : g_Pg 47 16 = ga_push (.int 0) 17 := (congrFun pg_47 16).trans rfl
theorem q_47_16 {L : List Value} {S : List Value} {Z : gZ} {I : gI} {J : gJ} : g_at 47 16 L S Z I J = g_at 47 17 L (.int 0 :: S) Z I J := gq_push e_47_16
theorem e_47_17 : g_Pg 47 17 = ga_zret := (congrFun pg_47 17).trans rfl
theorem q_47_17 {L : List Value} {x : Int32} {Z : gZ} {I : gI} {J : gJ} (h : gB01 x = true) : g_at 47 17 L [.int x] Z I J = some (some (.int x), Z, I, J) := gq_zret e_47_17 h
theorem e_48_0 : g_Pg 48 0 = ga_iload 0 1 := (congrFun pg_48 0).trans rfl
theorem q_48_0 {x : Int32} {S : List Value} {Z : gZ} {I : gI} {J : gJ} : g_at 48 0 [.int x] S Z I J = g_at 48 1 [.int x] (.int x :: S) Z I J := gq_iload e_48_0 rfl
theorem e_48_1 : g_Pg 48 1 = ga_push (.int 48) 3 := (congrFun pg_48 1).trans rfl
theorem q_48_1 {L : List Value} {S : List Value} {Z : gZ} {I : gI} {J : gJ} : g_at 48 1 L S Z I J = g_at 48 3 L (.int 48 :: S) Z I J := gq_push e_48_1
theorem e_48_3 : g_Pg 48 3 = ga_cmp (fun x y => decide (x < y)) 16 6 := (congrFun pg_48 3).trans rfl
theorem q_48_3 {L : List Value} {x y : Int32} {S : List Value} {Z : gZ} {I : gI} {J : gJ} : g_at 48 3 L (.int y :: .int x :: S) Z I J = if x < y then g_at 48 16 L S Z I J else g_at 48 6 L S Z I J := gq_cmp e_48_3 rfl
theorem e_48_6 : g_Pg 48 6 = ga_iload 0 7 := (congrFun pg_48 6).trans rfl
theorem q_48_6 {x : Int32} {S : List Value} {Z : gZ} {I : gI} {J : gJ} : g_at 48 6 [.int x] S Z I J = g_at 48 7 [.int x] (.int x :: S) Z I J := gq_iload e_48_6 rfl
theorem e_48_7 : g_Pg 48 7 = ga_push (.int 57) 9 := (congrFun pg_48 7).trans rfl
theorem q_48_7 {L : List Value} {S : List Value} {Z : gZ} {I : gI} {J : gJ} : g_at 48 7 L S Z I J = g_at 48 9 L (.int 57 :: S) Z I J := gq_push e_48_7
theorem e_48_9 : g_Pg 48 9 = ga_cmp (fun x y => decide (y < x)) 16 12 := (congrFun pg_48 9).trans rfl
theorem q_48_9 {L : List Value} {x y : Int32} {S : List Value} {Z : gZ} {I : gI} {J : gJ} : g_at 48 9 L (.int y :: .int x :: S) Z I J = if y < x then g_at 48 16 L S Z I J else g_at 48 12 L S Z I J := gq_cmp e_48_9 rfl
theorem e_48_12 : g_Pg 48 12 = ga_push (.int 1) 13 := (congrFun pg_48 12).trans rfl
theorem q_48_12 {L : List Value} {S : List Value} {Z : gZ} {I : gI} {J : gJ} : g_at 48 12 L S Z I J = g_at 48 13 L (.int 1 :: S) Z I J := gq_push e_48_12
theorem e_48_13 : g_Pg 48 13 = ga_goto 17 := (congrFun pg_48 13).trans rfl
theorem q_48_13 {L : List Value} {S : List Value} {Z : gZ} {I : gI} {J : gJ} : g_at 48 13 L S Z I J = g_at 48 17 L S Z I J := gq_goto e_48_13
theorem e_48_16 : g_Pg 48 16 = ga_push (.int 0) 17 := (congrFun pg_48 16).trans rfl
theorem q_48_16 {L : List Value} {S : List Value} {Z : gZ} {I : gI} {J : gJ} : g_at 48 16 L S Z I J = g_at 48 17 L (.int 0 :: S) Z I J := gq_push e_48_16
theorem e_48_17 : g_Pg 48 17 = ga_zret := (congrFun pg_48 17).trans rfl
theorem q_48_17 {L : List Value} {x : Int32} {Z : gZ} {I : gI} {J : gJ} (h : gB01 x = true) : g_at 48 17 L [.int x] Z I J = some (some (.int x), Z, I, J) := gq_zret e_48_17 h
theorem e_49_0 : g_Pg 49 0 = ga_iload 1 1 := (congrFun pg_49 0).trans rfl
theorem q_49_0 {l0 : Value} {x : Int32} {S : List Value} {Z : gZ} {I : gI} {J : gJ} : g_at 49 0 [l0, .int x] S Z I J = g_at 49 1 [l0, .int x] (.int x :: S) Z I J := gq_iload e_49_0 rfl
theorem e_49_1 : g_Pg 49 1 = ga_if (fun x => decide (x < 0)) 28 4 := (congrFun pg_49 1).trans rfl
theorem q_49_1 {L : List Value} {x : Int32} {S : List Value} {Z : gZ} {I : gI} {J : gJ} : g_at 49 1 L (.int x :: S) Z I J = if x < 0 then g_at 49 28 L S Z I J else g_at 49 4 L S Z I J := gq_if e_49_1 rfl
theorem e_49_4 : g_Pg 49 4 = ga_iload 1 5 := (congrFun pg_49 4).trans rfl
theorem q_49_4 {l0 : Value} {x : Int32} {S : List Value} {Z : gZ} {I : gI} {J : gJ} : g_at 49 4 [l0, .int x] S Z I J = g_at 49 5 [l0, .int x] (.int x :: S) Z I J := gq_iload e_49_4 rfl
theorem e_49_5 : g_Pg 49 5 = ga_aload 0 6 := (congrFun pg_49 5).trans rfl
theorem q_49_5 {l1 : Value} {x : Nat} {S : List Value} {Z : gZ} {I : gI} {J : gJ} : g_at 49 5 [.ref x, l1] S Z I J = g_at 49 6 [.ref x, l1] (.ref x :: S) Z I J := gq_aload e_49_5 rfl
theorem e_49_6 : g_Pg 49 6 = ga_getI 4 1 9 := (congrFun pg_49 6).trans rfl
theorem q_49_6 {L : List Value} {a : Nat} {S : List Value} {Z : gZ} {I : gI} {J : gJ} (h : (gKd Z a).1 = 4) : g_at 49 6 L (.ref a :: S) Z I J = g_at 49 9 L (.int (I a 1) :: S) Z I J := gq_getI e_49_6 h
theorem e_49_9 : g_Pg 49 9 = ga_cmp (fun x y => decide (y ≤ x)) 28 12 := (congrFun pg_49 9).trans rfl
theorem q_49_9 {L : List Value} {x y : Int32} {S : List Value} {Z : gZ} {I : gI} {J : gJ} : g_at 49 9 L (.int y :: .int x :: S) Z I J = if y ≤ x then g_at 49 28 L S Z I J else g_at 49 12 L S Z I J := gq_cmp e_49_9 rfl
theorem e_49_12 : g_Pg 49 12 = ga_iload 1 13 := (congrFun pg_49 12).trans rfl
theorem q_49_12 {l0 : Value} {x : Int32} {S : List Value} {Z : gZ} {I : gI} {J : gJ} : g_at 49 12 [l0, .int x] S Z I J = g_at 49 13 [l0, .int x] (.int x :: S) Z I J := gq_iload e_49_12 rfl
theorem e_49_13 : g_Pg 49 13 = ga_push (.int 200) 16 := (congrFun pg_49 13).trans rfl
theorem q_49_13 {L : List Value} {S : List Value} {Z : gZ} {I : gI} {J : gJ} : g_at 49 13 L S Z I J = g_at 49 16 L (.int 200 :: S) Z I J := gq_push e_49_13
theorem e_49_16 : g_Pg 49 16 = ga_cmp (fun x y => decide (y ≤ x)) 28 19 := (congrFun pg_49 16).trans rfl
theorem q_49_16 {L : List Value} {x y : Int32} {S : List Value} {Z : gZ} {I : gI} {J : gJ} : g_at 49 16 L (.int y :: .int x :: S) Z I J = if y ≤ x then g_at 49 28 L S Z I J else g_at 49 19 L S Z I J := gq_cmp e_49_16 rfl
theorem e_49_19 : g_Pg 49 19 = ga_aload 0 20 := (congrFun pg_49 19).trans rfl
theorem q_49_19 {l1 : Value} {x : Nat} {S : List Value} {Z : gZ} {I : gI} {J : gJ} : g_at 49 19 [.ref x, l1] S Z I J = g_at 49 20 [.ref x, l1] (.ref x :: S) Z I J := gq_aload e_49_19 rfl
theorem e_49_20 : g_Pg 49 20 = ga_getR 4 0 23 := (congrFun pg_49 20).trans rfl
theorem q_49_20 {L : List Value} {a : Nat} {S : List Value} {Z : gZ} {I : gI} {J : gJ} (h : (gKd Z a).1 = 4) (h1 : gRs Z a 0 = true) : g_at 49 20 L (.ref a :: S) Z I J = g_at 49 23 L (.ref (gRq Z a 0) :: S) Z I J := gq_getR e_49_20 h h1
theorem e_49_23 : g_Pg 49 23 = ga_iload 1 24 := (congrFun pg_49 23).trans rfl
theorem q_49_23 {l0 : Value} {x : Int32} {S : List Value} {Z : gZ} {I : gI} {J : gJ} : g_at 49 23 [l0, .int x] S Z I J = g_at 49 24 [l0, .int x] (.int x :: S) Z I J := gq_iload e_49_23 rfl
theorem e_49_24 : g_Pg 49 24 = ga_iald 25 := (congrFun pg_49 24).trans rfl
theorem q_49_24 {L : List Value} {a : Nat} {i : Int32} {S : List Value} {Z : gZ} {I : gI} {J : gJ} (h : gTg8 (gKd Z a).1 a = true) (h0 : 0 ≤ i) (h1 : i.toNatClampNeg < (gKd Z a).2) : g_at 49 24 L (.int i :: .ref a :: S) Z I J = g_at 49 25 L (.int (I a i.toNatClampNeg) :: S) Z I J := gq_iald e_49_24 h h0 h1
theorem e_49_25 : g_Pg 49 25 = ga_goto 29 := (congrFun pg_49 25).trans rfl
theorem q_49_25 {L : List Value} {S : List Value} {Z : gZ} {I : gI} {J : gJ} : g_at 49 25 L S Z I J = g_at 49 29 L S Z I J := gq_goto e_49_25
theorem e_49_28 : g_Pg 49 28 = ga_push (.int (-1)) 29 := (congrFun pg_49 28).trans rfl
theorem q_49_28 {L : List Value} {S : List Value} {Z : gZ} {I : gI} {J : gJ} : g_at 49 28 L S Z I J = g_at 49 29 L (.int (-1) :: S) Z I J := gq_push e_49_28
theorem e_49_29 : g_Pg 49 29 = ga_iret := (congrFun pg_49 29).trans rfl
theorem q_49_29 {L : List Value} {x : Int32} {Z : gZ} {I : gI} {J : gJ} : g_at 49 29 L [.int x] Z I J = some (some (.int x), Z, I, J) := gq_iret e_49_29
theorem e_50_0 : g_Pg 50 0 = ga_aload 0 1 := (congrFun pg_50 0).trans rfl
theorem q_50_0 {x : Nat} {S : List Value} {Z : gZ} {I : gI} {J : gJ} : g_at 50 0 [.ref x] S Z I J = g_at 50 1 [.ref x] (.ref x :: S) Z I J := gq_aload e_50_0 rfl
theorem e_50_1 : g_Pg 50 1 = ga_oinit 4 := (congrFun pg_50 1).trans rfl
theorem q_50_1 {L : List Value} {x : Nat} {Z : gZ} {I : gI} {J : gJ} : g_at 50 1 L [.ref x] Z I J = g_at 50 4 L [] Z I J := gq_oinit e_50_1
theorem e_50_4 : g_Pg 50 4 = ga_vret := (congrFun pg_50 4).trans rfl
theorem q_50_4 {L : List Value} {Z : gZ} {I : gI} {J : gJ} : g_at 50 4 L [] Z I J = some (none, Z, I, J) := gq_vret e_50_4
theorem e_51_0 : g_Pg 51 0 = ga_aload 0 1 := (congrFun pg_51 0).trans rfl
theorem q_51_0 {l1 l2 l3 l4 l5 l6 l7 : Value} {x : Nat} {S : List Value} {Z : gZ} {I : gI} {J : gJ} : g_at 51 0 [.ref x, l1, l2, l3, l4, l5, l6, l7] S Z I J = g_at 51 1 [.ref x, l1, l2, l3, l4, l5, l6, l7] (.ref x :: S) Z I J := gq_aload e_51_0 rfl
theorem e_51_1 : g_Pg 51 1 = ga_push (.int 0) 2 := (congrFun pg_51 1).trans rfl
theorem q_51_1 {L : List Value} {S : List Value} {Z : gZ} {I : gI} {J : gJ} : g_at 51 1 L S Z I J = g_at 51 2 L (.int 0 :: S) Z I J := gq_push e_51_1
theorem e_51_2 : g_Pg 51 2 = ga_putI 5 0 5 := (congrFun pg_51 2).trans rfl
theorem q_51_2 {L : List Value} {a : Nat} {v : Int32} {S : List Value} {Z : gZ} {I : gI} {J : gJ} (h : (gKd Z a).1 = 5) : g_at 51 2 L (.int v :: .ref a :: S) Z I J = g_at 51 5 L S Z (va_up I a (va_up (I a) 0 v)) J := gq_putI e_51_2 h
theorem e_51_5 : g_Pg 51 5 = ga_aload 0 6 := (congrFun pg_51 5).trans rfl
theorem q_51_5 {l1 l2 l3 l4 l5 l6 l7 : Value} {x : Nat} {S : List Value} {Z : gZ} {I : gI} {J : gJ} : g_at 51 5 [.ref x, l1, l2, l3, l4, l5, l6, l7] S Z I J = g_at 51 6 [.ref x, l1, l2, l3, l4, l5, l6, l7] (.ref x :: S) Z I J := gq_aload e_51_5 rfl
theorem e_51_6 : g_Pg 51 6 = ga_push (.int 0) 7 := (congrFun pg_51 6).trans rfl
theorem q_51_6 {L : List Value} {S : List Value} {Z : gZ} {I : gI} {J : gJ} : g_at 51 6 L S Z I J = g_at 51 7 L (.int 0 :: S) Z I J := gq_push e_51_6
theorem e_51_7 : g_Pg 51 7 = ga_putI 5 1 10 := (congrFun pg_51 7).trans rfl
theorem q_51_7 {L : List Value} {a : Nat} {v : Int32} {S : List Value} {Z : gZ} {I : gI} {J : gJ} (h : (gKd Z a).1 = 5) : g_at 51 7 L (.int v :: .ref a :: S) Z I J = g_at 51 10 L S Z (va_up I a (va_up (I a) 1 v)) J := gq_putI e_51_7 h
theorem e_51_10 : g_Pg 51 10 = ga_aload 0 11 := (congrFun pg_51 10).trans rfl
theorem q_51_10 {l1 l2 l3 l4 l5 l6 l7 : Value} {x : Nat} {S : List Value} {Z : gZ} {I : gI} {J : gJ} : g_at 51 10 [.ref x, l1, l2, l3, l4, l5, l6, l7] S Z I J = g_at 51 11 [.ref x, l1, l2, l3, l4, l5, l6, l7] (.ref x :: S) Z I J := gq_aload e_51_10 rfl
theorem e_51_11 : g_Pg 51 11 = ga_push (.int 0) 12 := (congrFun pg_51 11).trans rfl
theorem q_51_11 {L : List Value} {S : List Value} {Z : gZ} {I : gI} {J : gJ} : g_at 51 11 L S Z I J = g_at 51 12 L (.int 0 :: S) Z I J := gq_push e_51_11
theorem e_51_12 : g_Pg 51 12 = ga_putI 5 2 15 := (congrFun pg_51 12).trans rfl
theorem q_51_12 {L : List Value} {a : Nat} {v : Int32} {S : List Value} {Z : gZ} {I : gI} {J : gJ} (h : (gKd Z a).1 = 5) : g_at 51 12 L (.int v :: .ref a :: S) Z I J = g_at 51 15 L S Z (va_up I a (va_up (I a) 2 v)) J := gq_putI e_51_12 h
theorem e_51_15 : g_Pg 51 15 = ga_iload 5 17 := (congrFun pg_51 15).trans rfl
theorem q_51_15 {l0 l1 l2 l3 l4 l6 l7 : Value} {x : Int32} {S : List Value} {Z : gZ} {I : gI} {J : gJ} : g_at 51 15 [l0, l1, l2, l3, l4, .int x, l6, l7] S Z I J = g_at 51 17 [l0, l1, l2, l3, l4, .int x, l6, l7] (.int x :: S) Z I J := gq_iload e_51_15 rfl
theorem e_51_17 : g_Pg 51 17 = ga_istore 6 19 := (congrFun pg_51 17).trans rfl
theorem q_51_17 {l0 l1 l2 l3 l4 l5 l6 l7 : Value} {x : Int32} {S : List Value} {Z : gZ} {I : gI} {J : gJ} (h : gN1 l5 = true) : g_at 51 17 [l0, l1, l2, l3, l4, l5, l6, l7] (.int x :: S) Z I J = g_at 51 19 [l0, l1, l2, l3, l4, l5, .int x, l7] S Z I J := gq_istore e_51_17 h rfl rfl
theorem e_51_19 : g_Pg 51 19 = ga_push (.int 0) 20 := (congrFun pg_51 19).trans rfl
theorem q_51_19 {L : List Value} {S : List Value} {Z : gZ} {I : gI} {J : gJ} : g_at 51 19 L S Z I J = g_at 51 20 L (.int 0 :: S) Z I J := gq_push e_51_19
theorem e_51_20 : g_Pg 51 20 = ga_istore 7 22 := (congrFun pg_51 20).trans rfl
theorem q_51_20 {l0 l1 l2 l3 l4 l5 l6 l7 : Value} {x : Int32} {S : List Value} {Z : gZ} {I : gI} {J : gJ} (h : gN1 l6 = true) : g_at 51 20 [l0, l1, l2, l3, l4, l5, l6, l7] (.int x :: S) Z I J = g_at 51 22 [l0, l1, l2, l3, l4, l5, l6, .int x] S Z I J := gq_istore e_51_20 h rfl rfl
theorem e_51_22 : g_Pg 51 22 = ga_iload 7 24 := (congrFun pg_51 22).trans rfl
theorem q_51_22 {l0 l1 l2 l3 l4 l5 l6 : Value} {x : Int32} {S : List Value} {Z : gZ} {I : gI} {J : gJ} : g_at 51 22 [l0, l1, l2, l3, l4, l5, l6, .int x] S Z I J = g_at 51 24 [l0, l1, l2, l3, l4, l5, l6, .int x] (.int x :: S) Z I J := gq_iload e_51_22 rfl
theorem e_51_24 : g_Pg 51 24 = ga_push (.int 10) 26 := (congrFun pg_51 24).trans rfl
theorem q_51_24 {L : List Value} {S : List Value} {Z : gZ} {I : gI} {J : gJ} : g_at 51 24 L S Z I J = g_at 51 26 L (.int 10 :: S) Z I J := gq_push e_51_24
theorem e_51_26 : g_Pg 51 26 = ga_cmp (fun x y => decide (y ≤ x)) 122 29 := (congrFun pg_51 26).trans rfl
theorem q_51_26 {L : List Value} {x y : Int32} {S : List Value} {Z : gZ} {I : gI} {J : gJ} : g_at 51 26 L (.int y :: .int x :: S) Z I J = if y ≤ x then g_at 51 122 L S Z I J else g_at 51 29 L S Z I J := gq_cmp e_51_26 rfl
theorem e_51_29 : g_Pg 51 29 = ga_iload 6 31 := (congrFun pg_51 29).trans rfl
theorem q_51_29 {l0 l1 l2 l3 l4 l5 l7 : Value} {x : Int32} {S : List Value} {Z : gZ} {I : gI} {J : gJ} : g_at 51 29 [l0, l1, l2, l3, l4, l5, .int x, l7] S Z I J = g_at 51 31 [l0, l1, l2, l3, l4, l5, .int x, l7] (.int x :: S) Z I J := gq_iload e_51_29 rfl
theorem e_51_31 : g_Pg 51 31 = ga_iload 3 32 := (congrFun pg_51 31).trans rfl
theorem q_51_31 {l0 l1 l2 l4 l5 l6 l7 : Value} {x : Int32} {S : List Value} {Z : gZ} {I : gI} {J : gJ} : g_at 51 31 [l0, l1, l2, .int x, l4, l5, l6, l7] S Z I J = g_at 51 32 [l0, l1, l2, .int x, l4, l5, l6, l7] (.int x :: S) Z I J := gq_iload e_51_31 rfl
theorem e_51_32 : g_Pg 51 32 = ga_cmp (fun x y => decide (x = y)) 45 35 := (congrFun pg_51 32).trans rfl
theorem q_51_32 {L : List Value} {x y : Int32} {S : List Value} {Z : gZ} {I : gI} {J : gJ} : g_at 51 32 L (.int y :: .int x :: S) Z I J = if x = y then g_at 51 45 L S Z I J else g_at 51 35 L S Z I J := gq_cmp e_51_32 rfl
theorem e_51_35 : g_Pg 51 35 = ga_aload 1 36 := (congrFun pg_51 35).trans rfl
theorem q_51_35 {l0 l2 l3 l4 l5 l6 l7 : Value} {x : Nat} {S : List Value} {Z : gZ} {I : gI} {J : gJ} : g_at 51 35 [l0, .ref x, l2, l3, l4, l5, l6, l7] S Z I J = g_at 51 36 [l0, .ref x, l2, l3, l4, l5, l6, l7] (.ref x :: S) Z I J := gq_aload e_51_35 rfl
theorem e_51_36 : g_Pg 51 36 = ga_iload 6 38 := (congrFun pg_51 36).trans rfl
theorem q_51_36 {l0 l1 l2 l3 l4 l5 l7 : Value} {x : Int32} {S : List Value} {Z : gZ} {I : gI} {J : gJ} : g_at 51 36 [l0, l1, l2, l3, l4, l5, .int x, l7] S Z I J = g_at 51 38 [l0, l1, l2, l3, l4, l5, .int x, l7] (.int x :: S) Z I J := gq_iload e_51_36 rfl
theorem e_51_38 : g_Pg 51 38 = ga_iload 2 39 := (congrFun pg_51 38).trans rfl
theorem q_51_38 {l0 l1 l3 l4 l5 l6 l7 : Value} {x : Int32} {S : List Value} {Z : gZ} {I : gI} {J : gJ} : g_at 51 38 [l0, l1, .int x, l3, l4, l5, l6, l7] S Z I J = g_at 51 39 [l0, l1, .int x, l3, l4, l5, l6, l7] (.int x :: S) Z I J := gq_iload e_51_38 rfl
theorem e_51_39 : g_Pg 51 39 = ga_callV 0 4 2 42 := (congrFun pg_51 39).trans rfl
theorem q_51_39 {L : List Value} {a0 : Int32} {a1 : Int32} {a2 : Nat} {Z : gZ} {I : gI} {J : gJ} (h : (gKd Z a2).1 = 0) : g_at 51 39 L [.int a0, .int a1, .ref a2] Z I J = (g_at 4 0 [.ref a2, .int a1, .int a0] [] Z I J).bind (fun r => g_at 51 42 L (r.1.toList ++ []) r.2.1 r.2.2.1 r.2.2.2) := gq_callV e_51_39 rfl rfl h rfl rfl rfl rfl rfl
theorem e_51_42 : g_Pg 51 42 = ga_if (fun x => decide (¬ x = 0)) 47 45 := (congrFun pg_51 42).trans rfl
theorem q_51_42 {L : List Value} {x : Int32} {S : List Value} {Z : gZ} {I : gI} {J : gJ} : g_at 51 42 L (.int x :: S) Z I J = if ¬ x = 0 then g_at 51 47 L S Z I J else g_at 51 45 L S Z I J := gq_if e_51_42 rfl
theorem e_51_45 : g_Pg 51 45 = ga_push (.int 0) 46 := (congrFun pg_51 45).trans rfl
theorem q_51_45 {L : List Value} {S : List Value} {Z : gZ} {I : gI} {J : gJ} : g_at 51 45 L S Z I J = g_at 51 46 L (.int 0 :: S) Z I J := gq_push e_51_45
theorem e_51_46 : g_Pg 51 46 = ga_zret := (congrFun pg_51 46).trans rfl
theorem q_51_46 {L : List Value} {x : Int32} {Z : gZ} {I : gI} {J : gJ} (h : gB01 x = true) : g_at 51 46 L [.int x] Z I J = some (some (.int x), Z, I, J) := gq_zret e_51_46 h
theorem e_51_47 : g_Pg 51 47 = ga_aload 0 48 := (congrFun pg_51 47).trans rfl
theorem q_51_47 {l1 l2 l3 l4 l5 l6 l7 : Value} {x : Nat} {S : List Value} {Z : gZ} {I : gI} {J : gJ} : g_at 51 47 [.ref x, l1, l2, l3, l4, l5, l6, l7] S Z I J = g_at 51 48 [.ref x, l1, l2, l3, l4, l5, l6, l7] (.ref x :: S) Z I J := gq_aload e_51_47 rfl
theorem e_51_48 : g_Pg 51 48 = ga_dup 49 := (congrFun pg_51 48).trans rfl
theorem q_51_48 {L : List Value} {x : Nat} {S : List Value} {Z : gZ} {I : gI} {J : gJ} : g_at 51 48 L (.ref x :: S) Z I J = g_at 51 49 L (.ref x :: .ref x :: S) Z I J := gq_dup e_51_48
theorem e_51_49 : g_Pg 51 49 = ga_getI 5 0 52 := (congrFun pg_51 49).trans rfl
theorem q_51_49 {L : List Value} {a : Nat} {S : List Value} {Z : gZ} {I : gI} {J : gJ} (h : (gKd Z a).1 = 5) : g_at 51 49 L (.ref a :: S) Z I J = g_at 51 52 L (.int (I a 0) :: S) Z I J := gq_getI e_51_49 h
theorem e_51_52 : g_Pg 51 52 = ga_aload 1 53 := (congrFun pg_51 52).trans rfl
theorem q_51_52 {l0 l2 l3 l4 l5 l6 l7 : Value} {x : Nat} {S : List Value} {Z : gZ} {I : gI} {J : gJ} : g_at 51 52 [l0, .ref x, l2, l3, l4, l5, l6, l7] S Z I J = g_at 51 53 [l0, .ref x, l2, l3, l4, l5, l6, l7] (.ref x :: S) Z I J := gq_aload e_51_52 rfl
theorem e_51_53 : g_Pg 51 53 = ga_iload 6 55 := (congrFun pg_51 53).trans rfl
theorem q_51_53 {l0 l1 l2 l3 l4 l5 l7 : Value} {x : Int32} {S : List Value} {Z : gZ} {I : gI} {J : gJ} : g_at 51 53 [l0, l1, l2, l3, l4, l5, .int x, l7] S Z I J = g_at 51 55 [l0, l1, l2, l3, l4, l5, .int x, l7] (.int x :: S) Z I J := gq_iload e_51_53 rfl
theorem e_51_55 : g_Pg 51 55 = ga_iload 2 56 := (congrFun pg_51 55).trans rfl
theorem q_51_55 {l0 l1 l3 l4 l5 l6 l7 : Value} {x : Int32} {S : List Value} {Z : gZ} {I : gI} {J : gJ} : g_at 51 55 [l0, l1, .int x, l3, l4, l5, l6, l7] S Z I J = g_at 51 56 [l0, l1, .int x, l3, l4, l5, l6, l7] (.int x :: S) Z I J := gq_iload e_51_55 rfl
theorem e_51_56 : g_Pg 51 56 = ga_callV 0 5 2 59 := (congrFun pg_51 56).trans rfl
theorem q_51_56 {L : List Value} {a0 : Int32} {a1 : Int32} {a2 : Nat} {r3 : Int32} {r4 : Nat} {Z : gZ} {I : gI} {J : gJ} (h : (gKd Z a2).1 = 0) : g_at 51 56 L [.int a0, .int a1, .ref a2, .int r3, .ref r4] Z I J = (g_at 5 0 [.ref a2, .int a1, .int a0, .null] [] Z I J).bind (fun r => g_at 51 59 L (r.1.toList ++ [.int r3, .ref r4]) r.2.1 r.2.2.1 r.2.2.2) := gq_callV e_51_56 rfl rfl h rfl rfl rfl rfl rfl
theorem e_51_59 : g_Pg 51 59 = ga_bin (fun x y => x + y) 60 := (congrFun pg_51 59).trans rfl
theorem q_51_59 {L : List Value} {x y : Int32} {S : List Value} {Z : gZ} {I : gI} {J : gJ} : g_at 51 59 L (.int y :: .int x :: S) Z I J = g_at 51 60 L (.int (x + y) :: S) Z I J := gq_bin e_51_59
theorem e_51_60 : g_Pg 51 60 = ga_putI 5 0 63 := (congrFun pg_51 60).trans rfl
theorem q_51_60 {L : List Value} {a : Nat} {v : Int32} {S : List Value} {Z : gZ} {I : gI} {J : gJ} (h : (gKd Z a).1 = 5) : g_at 51 60 L (.int v :: .ref a :: S) Z I J = g_at 51 63 L S Z (va_up I a (va_up (I a) 0 v)) J := gq_putI e_51_60 h
theorem e_51_63 : g_Pg 51 63 = ga_aload 0 64 := (congrFun pg_51 63).trans rfl
theorem q_51_63 {l1 l2 l3 l4 l5 l6 l7 : Value} {x : Nat} {S : List Value} {Z : gZ} {I : gI} {J : gJ} : g_at 51 63 [.ref x, l1, l2, l3, l4, l5, l6, l7] S Z I J = g_at 51 64 [.ref x, l1, l2, l3, l4, l5, l6, l7] (.ref x :: S) Z I J := gq_aload e_51_63 rfl
theorem e_51_64 : g_Pg 51 64 = ga_dup 65 := (congrFun pg_51 64).trans rfl
theorem q_51_64 {L : List Value} {x : Nat} {S : List Value} {Z : gZ} {I : gI} {J : gJ} : g_at 51 64 L (.ref x :: S) Z I J = g_at 51 65 L (.ref x :: .ref x :: S) Z I J := gq_dup e_51_64
theorem e_51_65 : g_Pg 51 65 = ga_getI 5 1 68 := (congrFun pg_51 65).trans rfl
theorem q_51_65 {L : List Value} {a : Nat} {S : List Value} {Z : gZ} {I : gI} {J : gJ} (h : (gKd Z a).1 = 5) : g_at 51 65 L (.ref a :: S) Z I J = g_at 51 68 L (.int (I a 1) :: S) Z I J := gq_getI e_51_65 h
theorem e_51_68 : g_Pg 51 68 = ga_aload 1 69 := (congrFun pg_51 68).trans rfl
theorem q_51_68 {l0 l2 l3 l4 l5 l6 l7 : Value} {x : Nat} {S : List Value} {Z : gZ} {I : gI} {J : gJ} : g_at 51 68 [l0, .ref x, l2, l3, l4, l5, l6, l7] S Z I J = g_at 51 69 [l0, .ref x, l2, l3, l4, l5, l6, l7] (.ref x :: S) Z I J := gq_aload e_51_68 rfl
theorem e_51_69 : g_Pg 51 69 = ga_getR 0 2 72 := (congrFun pg_51 69).trans rfl
theorem q_51_69 {L : List Value} {a : Nat} {S : List Value} {Z : gZ} {I : gI} {J : gJ} (h : (gKd Z a).1 = 0) (h1 : gRs Z a 2 = true) : g_at 51 69 L (.ref a :: S) Z I J = g_at 51 72 L (.ref (gRq Z a 2) :: S) Z I J := gq_getR e_51_69 h h1
theorem e_51_72 : g_Pg 51 72 = ga_iload 6 74 := (congrFun pg_51 72).trans rfl
theorem q_51_72 {l0 l1 l2 l3 l4 l5 l7 : Value} {x : Int32} {S : List Value} {Z : gZ} {I : gI} {J : gJ} : g_at 51 72 [l0, l1, l2, l3, l4, l5, .int x, l7] S Z I J = g_at 51 74 [l0, l1, l2, l3, l4, l5, .int x, l7] (.int x :: S) Z I J := gq_iload e_51_72 rfl
theorem e_51_74 : g_Pg 51 74 = ga_iald 75 := (congrFun pg_51 74).trans rfl
theorem q_51_74 {L : List Value} {a : Nat} {i : Int32} {S : List Value} {Z : gZ} {I : gI} {J : gJ} (h : gTg8 (gKd Z a).1 a = true) (h0 : 0 ≤ i) (h1 : i.toNatClampNeg < (gKd Z a).2) : g_at 51 74 L (.int i :: .ref a :: S) Z I J = g_at 51 75 L (.int (I a i.toNatClampNeg) :: S) Z I J := gq_iald e_51_74 h h0 h1
theorem e_51_75 : g_Pg 51 75 = ga_push (.int 3) 76 := (congrFun pg_51 75).trans rfl
theorem q_51_75 {L : List Value} {S : List Value} {Z : gZ} {I : gI} {J : gJ} : g_at 51 75 L S Z I J = g_at 51 76 L (.int 3 :: S) Z I J := gq_push e_51_75
theorem e_51_76 : g_Pg 51 76 = ga_cmp (fun x y => decide (¬ x = y)) 83 79 := (congrFun pg_51 76).trans rfl
theorem q_51_76 {L : List Value} {x y : Int32} {S : List Value} {Z : gZ} {I : gI} {J : gJ} : g_at 51 76 L (.int y :: .int x :: S) Z I J = if ¬ x = y then g_at 51 83 L S Z I J else g_at 51 79 L S Z I J := gq_cmp e_51_76 rfl
theorem e_51_79 : g_Pg 51 79 = ga_push (.int 1) 80 := (congrFun pg_51 79).trans rfl
theorem q_51_79 {L : List Value} {S : List Value} {Z : gZ} {I : gI} {J : gJ} : g_at 51 79 L S Z I J = g_at 51 80 L (.int 1 :: S) Z I J := gq_push e_51_79
theorem e_51_80 : g_Pg 51 80 = ga_goto 84 := (congrFun pg_51 80).trans rfl
theorem q_51_80 {L : List Value} {S : List Value} {Z : gZ} {I : gI} {J : gJ} : g_at 51 80 L S Z I J = g_at 51 84 L S Z I J := gq_goto e_51_80
theorem e_51_83 : g_Pg 51 83 = ga_push (.int 0) 84 := (congrFun pg_51 83).trans rfl
theorem q_51_83 {L : List Value} {S : List Value} {Z : gZ} {I : gI} {J : gJ} : g_at 51 83 L S Z I J = g_at 51 84 L (.int 0 :: S) Z I J := gq_push e_51_83
theorem e_51_84 : g_Pg 51 84 = ga_bin (fun x y => x + y) 85 := (congrFun pg_51 84).trans rfl
theorem q_51_84 {L : List Value} {x y : Int32} {S : List Value} {Z : gZ} {I : gI} {J : gJ} : g_at 51 84 L (.int y :: .int x :: S) Z I J = g_at 51 85 L (.int (x + y) :: S) Z I J := gq_bin e_51_84
theorem e_51_85 : g_Pg 51 85 = ga_putI 5 1 88 := (congrFun pg_51 85).trans rfl
theorem q_51_85 {L : List Value} {a : Nat} {v : Int32} {S : List Value} {Z : gZ} {I : gI} {J : gJ} (h : (gKd Z a).1 = 5) : g_at 51 85 L (.int v :: .ref a :: S) Z I J = g_at 51 88 L S Z (va_up I a (va_up (I a) 1 v)) J := gq_putI e_51_85 h
theorem e_51_88 : g_Pg 51 88 = ga_aload 0 89 := (congrFun pg_51 88).trans rfl
theorem q_51_88 {l1 l2 l3 l4 l5 l6 l7 : Value} {x : Nat} {S : List Value} {Z : gZ} {I : gI} {J : gJ} : g_at 51 88 [.ref x, l1, l2, l3, l4, l5, l6, l7] S Z I J = g_at 51 89 [.ref x, l1, l2, l3, l4, l5, l6, l7] (.ref x :: S) Z I J := gq_aload e_51_88 rfl
theorem e_51_89 : g_Pg 51 89 = ga_dup 90 := (congrFun pg_51 89).trans rfl
theorem q_51_89 {L : List Value} {x : Nat} {S : List Value} {Z : gZ} {I : gI} {J : gJ} : g_at 51 89 L (.ref x :: S) Z I J = g_at 51 90 L (.ref x :: .ref x :: S) Z I J := gq_dup e_51_89
theorem e_51_90 : g_Pg 51 90 = ga_getI 5 2 93 := (congrFun pg_51 90).trans rfl
theorem q_51_90 {L : List Value} {a : Nat} {S : List Value} {Z : gZ} {I : gI} {J : gJ} (h : (gKd Z a).1 = 5) : g_at 51 90 L (.ref a :: S) Z I J = g_at 51 93 L (.int (I a 2) :: S) Z I J := gq_getI e_51_90 h
theorem e_51_93 : g_Pg 51 93 = ga_push (.int 1) 94 := (congrFun pg_51 93).trans rfl
theorem q_51_93 {L : List Value} {S : List Value} {Z : gZ} {I : gI} {J : gJ} : g_at 51 93 L S Z I J = g_at 51 94 L (.int 1 :: S) Z I J := gq_push e_51_93
theorem e_51_94 : g_Pg 51 94 = ga_bin (fun x y => x + y) 95 := (congrFun pg_51 94).trans rfl
theorem q_51_94 {L : List Value} {x y : Int32} {S : List Value} {Z : gZ} {I : gI} {J : gJ} : g_at 51 94 L (.int y :: .int x :: S) Z I J = g_at 51 95 L (.int (x + y) :: S) Z I J := gq_bin e_51_94
theorem e_51_95 : g_Pg 51 95 = ga_putI 5 2 98 := (congrFun pg_51 95).trans rfl
theorem q_51_95 {L : List Value} {a : Nat} {v : Int32} {S : List Value} {Z : gZ} {I : gI} {J : gJ} (h : (gKd Z a).1 = 5) : g_at 51 95 L (.int v :: .ref a :: S) Z I J = g_at 51 98 L S Z (va_up I a (va_up (I a) 2 v)) J := gq_putI e_51_95 h
theorem e_51_98 : g_Pg 51 98 = ga_aload 1 99 := (congrFun pg_51 98).trans rfl
theorem q_51_98 {l0 l2 l3 l4 l5 l6 l7 : Value} {x : Nat} {S : List Value} {Z : gZ} {I : gI} {J : gJ} : g_at 51 98 [l0, .ref x, l2, l3, l4, l5, l6, l7] S Z I J = g_at 51 99 [l0, .ref x, l2, l3, l4, l5, l6, l7] (.ref x :: S) Z I J := gq_aload e_51_98 rfl
theorem e_51_99 : g_Pg 51 99 = ga_getR 0 0 102 := (congrFun pg_51 99).trans rfl
theorem q_51_99 {L : List Value} {a : Nat} {S : List Value} {Z : gZ} {I : gI} {J : gJ} (h : (gKd Z a).1 = 0) (h1 : gRs Z a 0 = true) : g_at 51 99 L (.ref a :: S) Z I J = g_at 51 102 L (.ref (gRq Z a 0) :: S) Z I J := gq_getR e_51_99 h h1
theorem e_51_102 : g_Pg 51 102 = ga_iload 6 104 := (congrFun pg_51 102).trans rfl
theorem q_51_102 {l0 l1 l2 l3 l4 l5 l7 : Value} {x : Int32} {S : List Value} {Z : gZ} {I : gI} {J : gJ} : g_at 51 102 [l0, l1, l2, l3, l4, l5, .int x, l7] S Z I J = g_at 51 104 [l0, l1, l2, l3, l4, l5, .int x, l7] (.int x :: S) Z I J := gq_iload e_51_102 rfl
theorem e_51_104 : g_Pg 51 104 = ga_iald 105 := (congrFun pg_51 104).trans rfl
theorem q_51_104 {L : List Value} {a : Nat} {i : Int32} {S : List Value} {Z : gZ} {I : gI} {J : gJ} (h : gTg8 (gKd Z a).1 a = true) (h0 : 0 ≤ i) (h1 : i.toNatClampNeg < (gKd Z a).2) : g_at 51 104 L (.int i :: .ref a :: S) Z I J = g_at 51 105 L (.int (I a i.toNatClampNeg) :: S) Z I J := gq_iald e_51_104 h h0 h1
theorem e_51_105 : g_Pg 51 105 = ga_istore 6 107 := (congrFun pg_51 105).trans rfl
theorem q_51_105 {l0 l1 l2 l3 l4 l5 l6 l7 : Value} {x : Int32} {S : List Value} {Z : gZ} {I : gI} {J : gJ} (h : gN1 l5 = true) : g_at 51 105 [l0, l1, l2, l3, l4, l5, l6, l7] (.int x :: S) Z I J = g_at 51 107 [l0, l1, l2, l3, l4, l5, .int x, l7] S Z I J := gq_istore e_51_105 h rfl rfl
theorem e_51_107 : g_Pg 51 107 = ga_iload 6 109 := (congrFun pg_51 107).trans rfl
theorem q_51_107 {l0 l1 l2 l3 l4 l5 l7 : Value} {x : Int32} {S : List Value} {Z : gZ} {I : gI} {J : gJ} : g_at 51 107 [l0, l1, l2, l3, l4, l5, .int x, l7] S Z I J = g_at 51 109 [l0, l1, l2, l3, l4, l5, .int x, l7] (.int x :: S) Z I J := gq_iload e_51_107 rfl
theorem e_51_109 : g_Pg 51 109 = ga_iload 4 111 := (congrFun pg_51 109).trans rfl
theorem q_51_109 {l0 l1 l2 l3 l5 l6 l7 : Value} {x : Int32} {S : List Value} {Z : gZ} {I : gI} {J : gJ} : g_at 51 109 [l0, l1, l2, l3, .int x, l5, l6, l7] S Z I J = g_at 51 111 [l0, l1, l2, l3, .int x, l5, l6, l7] (.int x :: S) Z I J := gq_iload e_51_109 rfl
theorem e_51_111 : g_Pg 51 111 = ga_cmp (fun x y => decide (¬ x = y)) 116 114 := (congrFun pg_51 111).trans rfl
theorem q_51_111 {L : List Value} {x y : Int32} {S : List Value} {Z : gZ} {I : gI} {J : gJ} : g_at 51 111 L (.int y :: .int x :: S) Z I J = if ¬ x = y then g_at 51 116 L S Z I J else g_at 51 114 L S Z I J := gq_cmp e_51_111 rfl
theorem e_51_114 : g_Pg 51 114 = ga_push (.int 1) 115 := (congrFun pg_51 114).trans rfl
theorem q_51_114 {L : List Value} {S : List Value} {Z : gZ} {I : gI} {J : gJ} : g_at 51 114 L S Z I J = g_at 51 115 L (.int 1 :: S) Z I J := gq_push e_51_114
theorem e_51_115 : g_Pg 51 115 = ga_zret := (congrFun pg_51 115).trans rfl
theorem q_51_115 {L : List Value} {x : Int32} {Z : gZ} {I : gI} {J : gJ} (h : gB01 x = true) : g_at 51 115 L [.int x] Z I J = some (some (.int x), Z, I, J) := gq_zret e_51_115 h
theorem e_51_116 : g_Pg 51 116 = ga_iinc 7 1 119 := (congrFun pg_51 116).trans rfl
theorem q_51_116 {l0 l1 l2 l3 l4 l5 l6 : Value} {x : Int32} {S : List Value} {Z : gZ} {I : gI} {J : gJ} (h : gN1 l6 = true) : g_at 51 116 [l0, l1, l2, l3, l4, l5, l6, .int x] S Z I J = g_at 51 119 [l0, l1, l2, l3, l4, l5, l6, .int (x + 1)] S Z I J := gq_iinc e_51_116 rfl h rfl
theorem e_51_119 : g_Pg 51 119 = ga_goto 22 := (congrFun pg_51 119).trans rfl
theorem q_51_119 {L : List Value} {S : List Value} {Z : gZ} {I : gI} {J : gJ} : g_at 51 119 L S Z I J = g_at 51 22 L S Z I J := gq_goto e_51_119
theorem e_51_122 : g_Pg 51 122 = ga_push (.int 0) 123 := (congrFun pg_51 122).trans rfl
theorem q_51_122 {L : List Value} {S : List Value} {Z : gZ} {I : gI} {J : gJ} : g_at 51 122 L S Z I J = g_at 51 123 L (.int 0 :: S) Z I J := gq_push e_51_122
theorem e_51_123 : g_Pg 51 123 = ga_zret := (congrFun pg_51 123).trans rfl
theorem q_51_123 {L : List Value} {x : Int32} {Z : gZ} {I : gI} {J : gJ} (h : gB01 x = true) : g_at 51 123 L [.int x] Z I J = some (some (.int x), Z, I, J) := gq_zret e_51_123 h
