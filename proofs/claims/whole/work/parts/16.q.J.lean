theorem e_133_0 : g_Pg 133 0 = ga_iload 0 1 := (congrFun pg_133 0).trans rfl
theorem q_133_0 {x : Int32} {S : List Value} {Z : gZ} {I : gI} {J : gJ} : g_at 133 0 [.int x] S Z I J = g_at 133 1 [.int x] (.int x :: S) Z I J := gq_iload e_133_0 rfl
theorem e_133_1 : g_Pg 133 1 = ga_iload 0 2 := (congrFun pg_133 1).trans rfl
theorem q_133_1 {x : Int32} {S : List Value} {Z : gZ} {I : gI} {J : gJ} : g_at 133 1 [.int x] S Z I J = g_at 133 2 [.int x] (.int x :: S) Z I J := gq_iload e_133_1 rfl
theorem e_133_2 : g_Pg 133 2 = ga_push (.int 1) 3 := (congrFun pg_133 2).trans rfl
theorem q_133_2 {L : List Value} {S : List Value} {Z : gZ} {I : gI} {J : gJ} : g_at 133 2 L S Z I J = g_at 133 3 L (.int 1 :: S) Z I J := gq_push e_133_2
theorem e_133_3 : g_Pg 133 3 = ga_bin (fun x y => (x.toUInt32 >>> (y.toUInt32 &&& Int32.toUInt32 31)).toInt32) 4 := (congrFun pg_133 3).trans rfl
theorem q_133_3 {L : List Value} {x y : Int32} {S : List Value} {Z : gZ} {I : gI} {J : gJ} : g_at 133 3 L (.int y :: .int x :: S) Z I J = g_at 133 4 L (.int ((x.toUInt32 >>> (y.toUInt32 &&& Int32.toUInt32 31)).toInt32) :: S) Z I J := gq_bin e_133_3
theorem e_133_4 : g_Pg 133 4 = ga_push (.int 1431655765) 7 := (congrFun pg_133 4).trans rfl
theorem q_133_4 {L : List Value} {S : List Value} {Z : gZ} {I : gI} {J : gJ} : g_at 133 4 L S Z I J = g_at 133 7 L (.int 1431655765 :: S) Z I J := gq_push e_133_4
theorem e_133_7 : g_Pg 133 7 = ga_bin (fun x y => x &&& y) 8 := (congrFun pg_133 7).trans rfl
theorem q_133_7 {L : List Value} {x y : Int32} {S : List Value} {Z : gZ} {I : gI} {J : gJ} : g_at 133 7 L (.int y :: .int x :: S) Z I J = g_at 133 8 L (.int (x &&& y) :: S) Z I J := gq_bin e_133_7
theorem e_133_8 : g_Pg 133 8 = ga_bin (fun x y => x - y) 9 := (congrFun pg_133 8).trans rfl
theorem q_133_8 {L : List Value} {x y : Int32} {S : List Value} {Z : gZ} {I : gI} {J : gJ} : g_at 133 8 L (.int y :: .int x :: S) Z I J = g_at 133 9 L (.int (x - y) :: S) Z I J := gq_bin e_133_8
theorem e_133_9 : g_Pg 133 9 = ga_istore 0 10 := (congrFun pg_133 9).trans rfl
theorem q_133_9 {l0 : Value} {x : Int32} {S : List Value} {Z : gZ} {I : gI} {J : gJ} : g_at 133 9 [l0] (.int x :: S) Z I J = g_at 133 10 [.int x] S Z I J := gq_istore e_133_9 rfl rfl rfl
theorem e_133_10 : g_Pg 133 10 = ga_iload 0 11 := (congrFun pg_133 10).trans rfl
theorem q_133_10 {x : Int32} {S : List Value} {Z : gZ} {I : gI} {J : gJ} : g_at 133 10 [.int x] S Z I J = g_at 133 11 [.int x] (.int x :: S) Z I J := gq_iload e_133_10 rfl
theorem e_133_11 : g_Pg 133 11 = ga_push (.int 858993459) 14 := (congrFun pg_133 11).trans rfl
theorem q_133_11 {L : List Value} {S : List Value} {Z : gZ} {I : gI} {J : gJ} : g_at 133 11 L S Z I J = g_at 133 14 L (.int 858993459 :: S) Z I J := gq_push e_133_11
theorem e_133_14 : g_Pg 133 14 = ga_bin (fun x y => x &&& y) 15 := (congrFun pg_133 14).trans rfl
theorem q_133_14 {L : List Value} {x y : Int32} {S : List Value} {Z : gZ} {I : gI} {J : gJ} : g_at 133 14 L (.int y :: .int x :: S) Z I J = g_at 133 15 L (.int (x &&& y) :: S) Z I J := gq_bin e_133_14
theorem e_133_15 : g_Pg 133 15 = ga_iload 0 16 := (congrFun pg_133 15).trans rfl
theorem q_133_15 {x : Int32} {S : List Value} {Z : gZ} {I : gI} {J : gJ} : g_at 133 15 [.int x] S Z I J = g_at 133 16 [.int x] (.int x :: S) Z I J := gq_iload e_133_15 rfl
theorem e_133_16 : g_Pg 133 16 = ga_push (.int 2) 17 := (congrFun pg_133 16).trans rfl
theorem q_133_16 {L : List Value} {S : List Value} {Z : gZ} {I : gI} {J : gJ} : g_at 133 16 L S Z I J = g_at 133 17 L (.int 2 :: S) Z I J := gq_push e_133_16
theorem e_133_17 : g_Pg 133 17 = ga_bin (fun x y => (x.toUInt32 >>> (y.toUInt32 &&& Int32.toUInt32 31)).toInt32) 18 := (congrFun pg_133 17).trans rfl
theorem q_133_17 {L : List Value} {x y : Int32} {S : List Value} {Z : gZ} {I : gI} {J : gJ} : g_at 133 17 L (.int y :: .int x :: S) Z I J = g_at 133 18 L (.int ((x.toUInt32 >>> (y.toUInt32 &&& Int32.toUInt32 31)).toInt32) :: S) Z I J := gq_bin e_133_17
theorem e_133_18 : g_Pg 133 18 = ga_push (.int 858993459) 21 := (congrFun pg_133 18).trans rfl
theorem q_133_18 {L : List Value} {S : List Value} {Z : gZ} {I : gI} {J : gJ} : g_at 133 18 L S Z I J = g_at 133 21 L (.int 858993459 :: S) Z I J := gq_push e_133_18
theorem e_133_21 : g_Pg 133 21 = ga_bin (fun x y => x &&& y) 22 := (congrFun pg_133 21).trans rfl
theorem q_133_21 {L : List Value} {x y : Int32} {S : List Value} {Z : gZ} {I : gI} {J : gJ} : g_at 133 21 L (.int y :: .int x :: S) Z I J = g_at 133 22 L (.int (x &&& y) :: S) Z I J := gq_bin e_133_21
theorem e_133_22 : g_Pg 133 22 = ga_bin (fun x y => x + y) 23 := (congrFun pg_133 22).trans rfl
theorem q_133_22 {L : List Value} {x y : Int32} {S : List Value} {Z : gZ} {I : gI} {J : gJ} : g_at 133 22 L (.int y :: .int x :: S) Z I J = g_at 133 23 L (.int (x + y) :: S) Z I J := gq_bin e_133_22
theorem e_133_23 : g_Pg 133 23 = ga_istore 0 24 := (congrFun pg_133 23).trans rfl
theorem q_133_23 {l0 : Value} {x : Int32} {S : List Value} {Z : gZ} {I : gI} {J : gJ} : g_at 133 23 [l0] (.int x :: S) Z I J = g_at 133 24 [.int x] S Z I J := gq_istore e_133_23 rfl rfl rfl
theorem e_133_24 : g_Pg 133 24 = ga_iload 0 25 := (congrFun pg_133 24).trans rfl
theorem q_133_24 {x : Int32} {S : List Value} {Z : gZ} {I : gI} {J : gJ} : g_at 133 24 [.int x] S Z I J = g_at 133 25 [.int x] (.int x :: S) Z I J := gq_iload e_133_24 rfl
theorem e_133_25 : g_Pg 133 25 = ga_iload 0 26 := (congrFun pg_133 25).trans rfl
theorem q_133_25 {x : Int32} {S : List Value} {Z : gZ} {I : gI} {J : gJ} : g_at 133 25 [.int x] S Z I J = g_at 133 26 [.int x] (.int x :: S) Z I J := gq_iload e_133_25 rfl
theorem e_133_26 : g_Pg 133 26 = ga_push (.int 4) 27 := (congrFun pg_133 26).trans rfl
theorem q_133_26 {L : List Value} {S : List Value} {Z : gZ} {I : gI} {J : gJ} : g_at 133 26 L S Z I J = g_at 133 27 L (.int 4 :: S) Z I J := gq_push e_133_26
theorem e_133_27 : g_Pg 133 27 = ga_bin (fun x y => (x.toUInt32 >>> (y.toUInt32 &&& Int32.toUInt32 31)).toInt32) 28 := (congrFun pg_133 27).trans rfl
theorem q_133_27 {L : List Value} {x y : Int32} {S : List Value} {Z : gZ} {I : gI} {J : gJ} : g_at 133 27 L (.int y :: .int x :: S) Z I J = g_at 133 28 L (.int ((x.toUInt32 >>> (y.toUInt32 &&& Int32.toUInt32 31)).toInt32) :: S) Z I J := gq_bin e_133_27
theorem e_133_28 : g_Pg 133 28 = ga_bin (fun x y => x + y) 29 := (congrFun pg_133 28).trans rfl
theorem q_133_28 {L : List Value} {x y : Int32} {S : List Value} {Z : gZ} {I : gI} {J : gJ} : g_at 133 28 L (.int y :: .int x :: S) Z I J = g_at 133 29 L (.int (x + y) :: S) Z I J := gq_bin e_133_28
theorem e_133_29 : g_Pg 133 29 = ga_push (.int 252645135) 32 := (congrFun pg_133 29).trans rfl
theorem q_133_29 {L : List Value} {S : List Value} {Z : gZ} {I : gI} {J : gJ} : g_at 133 29 L S Z I J = g_at 133 32 L (.int 252645135 :: S) Z I J := gq_push e_133_29
theorem e_133_32 : g_Pg 133 32 = ga_bin (fun x y => x &&& y) 33 := (congrFun pg_133 32).trans rfl
theorem q_133_32 {L : List Value} {x y : Int32} {S : List Value} {Z : gZ} {I : gI} {J : gJ} : g_at 133 32 L (.int y :: .int x :: S) Z I J = g_at 133 33 L (.int (x &&& y) :: S) Z I J := gq_bin e_133_32
theorem e_133_33 : g_Pg 133 33 = ga_istore 0 34 := (congrFun pg_133 33).trans rfl
theorem q_133_33 {l0 : Value} {x : Int32} {S : List Value} {Z : gZ} {I : gI} {J : gJ} : g_at 133 33 [l0] (.int x :: S) Z I J = g_at 133 34 [.int x] S Z I J := gq_istore e_133_33 rfl rfl rfl
theorem e_133_34 : g_Pg 133 34 = ga_iload 0 35 := (congrFun pg_133 34).trans rfl
theorem q_133_34 {x : Int32} {S : List Value} {Z : gZ} {I : gI} {J : gJ} : g_at 133 34 [.int x] S Z I J = g_at 133 35 [.int x] (.int x :: S) Z I J := gq_iload e_133_34 rfl
theorem e_133_35 : g_Pg 133 35 = ga_iload 0 36 := (congrFun pg_133 35).trans rfl
theorem q_133_35 {x : Int32} {S : List Value} {Z : gZ} {I : gI} {J : gJ} : g_at 133 35 [.int x] S Z I J = g_at 133 36 [.int x] (.int x :: S) Z I J := gq_iload e_133_35 rfl
theorem e_133_36 : g_Pg 133 36 = ga_push (.int 8) 38 := (congrFun pg_133 36).trans rfl
theorem q_133_36 {L : List Value} {S : List Value} {Z : gZ} {I : gI} {J : gJ} : g_at 133 36 L S Z I J = g_at 133 38 L (.int 8 :: S) Z I J := gq_push e_133_36
theorem e_133_38 : g_Pg 133 38 = ga_bin (fun x y => (x.toUInt32 >>> (y.toUInt32 &&& Int32.toUInt32 31)).toInt32) 39 := (congrFun pg_133 38).trans rfl
theorem q_133_38 {L : List Value} {x y : Int32} {S : List Value} {Z : gZ} {I : gI} {J : gJ} : g_at 133 38 L (.int y :: .int x :: S) Z I J = g_at 133 39 L (.int ((x.toUInt32 >>> (y.toUInt32 &&& Int32.toUInt32 31)).toInt32) :: S) Z I J := gq_bin e_133_38
theorem e_133_39 : g_Pg 133 39 = ga_bin (fun x y => x + y) 40 := (congrFun pg_133 39).trans rfl
theorem q_133_39 {L : List Value} {x y : Int32} {S : List Value} {Z : gZ} {I : gI} {J : gJ} : g_at 133 39 L (.int y :: .int x :: S) Z I J = g_at 133 40 L (.int (x + y) :: S) Z I J := gq_bin e_133_39
theorem e_133_40 : g_Pg 133 40 = ga_istore 0 41 := (congrFun pg_133 40).trans rfl
theorem q_133_40 {l0 : Value} {x : Int32} {S : List Value} {Z : gZ} {I : gI} {J : gJ} : g_at 133 40 [l0] (.int x :: S) Z I J = g_at 133 41 [.int x] S Z I J := gq_istore e_133_40 rfl rfl rfl
theorem e_133_41 : g_Pg 133 41 = ga_iload 0 42 := (congrFun pg_133 41).trans rfl
theorem q_133_41 {x : Int32} {S : List Value} {Z : gZ} {I : gI} {J : gJ} : g_at 133 41 [.int x] S Z I J = g_at 133 42 [.int x] (.int x :: S) Z I J := gq_iload e_133_41 rfl
theorem e_133_42 : g_Pg 133 42 = ga_iload 0 43 := (congrFun pg_133 42).trans rfl
theorem q_133_42 {x : Int32} {S : List Value} {Z : gZ} {I : gI} {J : gJ} : g_at 133 42 [.int x] S Z I J = g_at 133 43 [.int x] (.int x :: S) Z I J := gq_iload e_133_42 rfl
theorem e_133_43 : g_Pg 133 43 = ga_push (.int 16) 45 := (congrFun pg_133 43).trans rfl
theorem q_133_43 {L : List Value} {S : List Value} {Z : gZ} {I : gI} {J : gJ} : g_at 133 43 L S Z I J = g_at 133 45 L (.int 16 :: S) Z I J := gq_push e_133_43
theorem e_133_45 : g_Pg 133 45 = ga_bin (fun x y => (x.toUInt32 >>> (y.toUInt32 &&& Int32.toUInt32 31)).toInt32) 46 := (congrFun pg_133 45).trans rfl
theorem q_133_45 {L : List Value} {x y : Int32} {S : List Value} {Z : gZ} {I : gI} {J : gJ} : g_at 133 45 L (.int y :: .int x :: S) Z I J = g_at 133 46 L (.int ((x.toUInt32 >>> (y.toUInt32 &&& Int32.toUInt32 31)).toInt32) :: S) Z I J := gq_bin e_133_45
theorem e_133_46 : g_Pg 133 46 = ga_bin (fun x y => x + y) 47 := (congrFun pg_133 46).trans rfl
theorem q_133_46 {L : List Value} {x y : Int32} {S : List Value} {Z : gZ} {I : gI} {J : gJ} : g_at 133 46 L (.int y :: .int x :: S) Z I J = g_at 133 47 L (.int (x + y) :: S) Z I J := gq_bin e_133_46
theorem e_133_47 : g_Pg 133 47 = ga_istore 0 48 := (congrFun pg_133 47).trans rfl
theorem q_133_47 {l0 : Value} {x : Int32} {S : List Value} {Z : gZ} {I : gI} {J : gJ} : g_at 133 47 [l0] (.int x :: S) Z I J = g_at 133 48 [.int x] S Z I J := gq_istore e_133_47 rfl rfl rfl
theorem e_133_48 : g_Pg 133 48 = ga_iload 0 49 := (congrFun pg_133 48).trans rfl
theorem q_133_48 {x : Int32} {S : List Value} {Z : gZ} {I : gI} {J : gJ} : g_at 133 48 [.int x] S Z I J = g_at 133 49 [.int x] (.int x :: S) Z I J := gq_iload e_133_48 rfl
theorem e_133_49 : g_Pg 133 49 = ga_push (.int 63) 51 := (congrFun pg_133 49).trans rfl
theorem q_133_49 {L : List Value} {S : List Value} {Z : gZ} {I : gI} {J : gJ} : g_at 133 49 L S Z I J = g_at 133 51 L (.int 63 :: S) Z I J := gq_push e_133_49
theorem e_133_51 : g_Pg 133 51 = ga_bin (fun x y => x &&& y) 52 := (congrFun pg_133 51).trans rfl
theorem q_133_51 {L : List Value} {x y : Int32} {S : List Value} {Z : gZ} {I : gI} {J : gJ} : g_at 133 51 L (.int y :: .int x :: S) Z I J = g_at 133 52 L (.int (x &&& y) :: S) Z I J := gq_bin e_133_51
theorem e_133_52 : g_Pg 133 52 = ga_iret := (congrFun pg_133 52).trans rfl
theorem q_133_52 {L : List Value} {x : Int32} {Z : gZ} {I : gI} {J : gJ} : g_at 133 52 L [.int x] Z I J = some (some (.int x), Z, I, J) := gq_iret e_133_52
theorem e_134_0 : g_Pg 134 0 = ga_aload 0 1 := (congrFun pg_134 0).trans rfl
theorem q_134_0 {x : Nat} {S : List Value} {Z : gZ} {I : gI} {J : gJ} : g_at 134 0 [.ref x] S Z I J = g_at 134 1 [.ref x] (.ref x :: S) Z I J := gq_aload e_134_0 rfl
theorem e_134_1 : g_Pg 134 1 = ga_getS 4 := (congrFun pg_134 1).trans rfl
theorem q_134_1 {L : List Value} {x : Nat} {S : List Value} {Z : gZ} {I : gI} {J : gJ} (h : (gKd Z x).1 = 12) (h1 : 1000 ≤ x) : g_at 134 1 L (.ref x :: S) Z I J = g_at 134 4 L (.ref (x + 20) :: S) Z I J := gq_getS e_134_1 h h1
theorem e_134_4 : g_Pg 134 4 = ga_alen 5 := (congrFun pg_134 4).trans rfl
theorem q_134_4 {L : List Value} {a : Nat} {S : List Value} {Z : gZ} {I : gI} {J : gJ} (h : gTgA (gKd Z a).1 a = true) : g_at 134 4 L (.ref a :: S) Z I J = g_at 134 5 L (.int (Int32.ofNat (gKd Z a).2) :: S) Z I J := gq_alen e_134_4 h
theorem e_134_5 : g_Pg 134 5 = ga_aload 0 6 := (congrFun pg_134 5).trans rfl
theorem q_134_5 {x : Nat} {S : List Value} {Z : gZ} {I : gI} {J : gJ} : g_at 134 5 [.ref x] S Z I J = g_at 134 6 [.ref x] (.ref x :: S) Z I J := gq_aload e_134_5 rfl
theorem e_134_6 : g_Pg 134 6 = ga_callV 12 136 0 9 := (congrFun pg_134 6).trans rfl
theorem q_134_6 {L : List Value} {a0 : Nat} {r1 : Int32} {Z : gZ} {I : gI} {J : gJ} (h : (gKd Z a0).1 = 12) (h1 : 1000 ≤ a0) : g_at 134 6 L [.ref a0, .int r1] Z I J = (g_at 136 0 [.ref a0] [] Z I J).bind (fun r => g_at 134 9 L (r.1.toList ++ [.int r1]) r.2.1 r.2.2.1 r.2.2.2) := gq_callT e_134_6 rfl h h1 rfl rfl rfl rfl rfl
theorem e_134_9 : g_Pg 134 9 = ga_bin (fun x y => x >>> (y &&& 31)) 10 := (congrFun pg_134 9).trans rfl
theorem q_134_9 {L : List Value} {x y : Int32} {S : List Value} {Z : gZ} {I : gI} {J : gJ} : g_at 134 9 L (.int y :: .int x :: S) Z I J = g_at 134 10 L (.int (x >>> (y &&& 31)) :: S) Z I J := gq_bin e_134_9
theorem e_134_10 : g_Pg 134 10 = ga_iret := (congrFun pg_134 10).trans rfl
theorem q_134_10 {L : List Value} {x : Int32} {Z : gZ} {I : gI} {J : gJ} : g_at 134 10 L [.int x] Z I J = some (some (.int x), Z, I, J) := gq_iret e_134_10
theorem e_135_0 : g_Pg 135 0 = ga_aload 0 1 := (congrFun pg_135 0).trans rfl
theorem q_135_0 {l1 : Value} {x : Nat} {S : List Value} {Z : gZ} {I : gI} {J : gJ} : g_at 135 0 [.ref x, l1] S Z I J = g_at 135 1 [.ref x, l1] (.ref x :: S) Z I J := gq_aload e_135_0 rfl
theorem e_135_1 : g_Pg 135 1 = ga_callV 12 137 0 4 := (congrFun pg_135 1).trans rfl
theorem q_135_1 {L : List Value} {a0 : Nat} {Z : gZ} {I : gI} {J : gJ} (h : (gKd Z a0).1 = 12) (h1 : 1000 ≤ a0) : g_at 135 1 L [.ref a0] Z I J = (g_at 137 0 [.ref a0] [] Z I J).bind (fun r => g_at 135 4 L (r.1.toList ++ []) r.2.1 r.2.2.1 r.2.2.2) := gq_callT e_135_1 rfl h h1 rfl rfl rfl rfl rfl
theorem e_135_4 : g_Pg 135 4 = ga_if (fun x => decide (x = 0)) 16 7 := (congrFun pg_135 4).trans rfl
theorem q_135_4 {L : List Value} {x : Int32} {S : List Value} {Z : gZ} {I : gI} {J : gJ} : g_at 135 4 L (.int x :: S) Z I J = if x = 0 then g_at 135 16 L S Z I J else g_at 135 7 L S Z I J := gq_if e_135_4 rfl
theorem e_135_7 : g_Pg 135 7 = ga_aload 0 8 := (congrFun pg_135 7).trans rfl
theorem q_135_7 {l1 : Value} {x : Nat} {S : List Value} {Z : gZ} {I : gI} {J : gJ} : g_at 135 7 [.ref x, l1] S Z I J = g_at 135 8 [.ref x, l1] (.ref x :: S) Z I J := gq_aload e_135_7 rfl
theorem e_135_8 : g_Pg 135 8 = ga_getS 11 := (congrFun pg_135 8).trans rfl
theorem q_135_8 {L : List Value} {x : Nat} {S : List Value} {Z : gZ} {I : gI} {J : gJ} (h : (gKd Z x).1 = 12) (h1 : 1000 ≤ x) : g_at 135 8 L (.ref x :: S) Z I J = g_at 135 11 L (.ref (x + 20) :: S) Z I J := gq_getS e_135_8 h h1
theorem e_135_11 : g_Pg 135 11 = ga_iload 1 12 := (congrFun pg_135 11).trans rfl
theorem q_135_11 {l0 : Value} {x : Int32} {S : List Value} {Z : gZ} {I : gI} {J : gJ} : g_at 135 11 [l0, .int x] S Z I J = g_at 135 12 [l0, .int x] (.int x :: S) Z I J := gq_iload e_135_11 rfl
theorem e_135_12 : g_Pg 135 12 = ga_call 139 2 15 := (congrFun pg_135 12).trans rfl
theorem q_135_12 {L : List Value} {a0 : Int32} {a1 : Nat} {Z : gZ} {I : gI} {J : gJ} : g_at 135 12 L [.int a0, .ref a1] Z I J = (g_at 139 0 [.ref a1, .int a0] [] Z I J).bind (fun r => g_at 135 15 L (r.1.toList ++ []) r.2.1 r.2.2.1 r.2.2.2) := gq_call e_135_12 rfl rfl rfl rfl rfl
theorem e_135_15 : g_Pg 135 15 = ga_cret := (congrFun pg_135 15).trans rfl
theorem q_135_15 {L : List Value} {x : Int32} {Z : gZ} {I : gI} {J : gJ} (h : narrow .char (.int x) = .int x) : g_at 135 15 L [.int x] Z I J = some (some (.int x), Z, I, J) := gq_cret e_135_15 h
theorem e_135_16 : g_Pg 135 16 = ga_aload 0 17 := (congrFun pg_135 16).trans rfl
theorem q_135_16 {l1 : Value} {x : Nat} {S : List Value} {Z : gZ} {I : gI} {J : gJ} : g_at 135 16 [.ref x, l1] S Z I J = g_at 135 17 [.ref x, l1] (.ref x :: S) Z I J := gq_aload e_135_16 rfl
theorem e_135_17 : g_Pg 135 17 = ga_getS 20 := (congrFun pg_135 17).trans rfl
theorem q_135_17 {L : List Value} {x : Nat} {S : List Value} {Z : gZ} {I : gI} {J : gJ} (h : (gKd Z x).1 = 12) (h1 : 1000 ≤ x) : g_at 135 17 L (.ref x :: S) Z I J = g_at 135 20 L (.ref (x + 20) :: S) Z I J := gq_getS e_135_17 h h1
theorem e_135_20 : g_Pg 135 20 = ga_iload 1 21 := (congrFun pg_135 20).trans rfl
theorem q_135_20 {l0 : Value} {x : Int32} {S : List Value} {Z : gZ} {I : gI} {J : gJ} : g_at 135 20 [l0, .int x] S Z I J = g_at 135 21 [l0, .int x] (.int x :: S) Z I J := gq_iload e_135_20 rfl
theorem e_135_24 : g_Pg 135 24 = ga_cret := (congrFun pg_135 24).trans rfl
theorem q_135_24 {L : List Value} {x : Int32} {Z : gZ} {I : gI} {J : gJ} (h : narrow .char (.int x) = .int x) : g_at 135 24 L [.int x] Z I J = some (some (.int x), Z, I, J) := gq_cret e_135_24 h
theorem e_136_0 : g_Pg 136 0 = ga_push (.int 1) 3 := (congrFun pg_136 0).trans rfl
theorem q_136_0 {L : List Value} {S : List Value} {Z : gZ} {I : gI} {J : gJ} : g_at 136 0 L S Z I J = g_at 136 3 L (.int 1 :: S) Z I J := gq_push e_136_0
theorem e_136_3 : g_Pg 136 3 = ga_if (fun x => decide (x = 0)) 13 6 := (congrFun pg_136 3).trans rfl
theorem q_136_3 {L : List Value} {x : Int32} {S : List Value} {Z : gZ} {I : gI} {J : gJ} : g_at 136 3 L (.int x :: S) Z I J = if x = 0 then g_at 136 13 L S Z I J else g_at 136 6 L S Z I J := gq_if e_136_3 rfl
theorem e_136_6 : g_Pg 136 6 = ga_aload 0 7 := (congrFun pg_136 6).trans rfl
theorem q_136_6 {x : Nat} {S : List Value} {Z : gZ} {I : gI} {J : gJ} : g_at 136 6 [.ref x] S Z I J = g_at 136 7 [.ref x] (.ref x :: S) Z I J := gq_aload e_136_6 rfl
theorem e_136_7 : g_Pg 136 7 = ga_getC 10 := (congrFun pg_136 7).trans rfl
theorem q_136_7 {L : List Value} {x : Nat} {S : List Value} {Z : gZ} {I : gI} {J : gJ} (h : (gKd Z x).1 = 12) (h1 : 1000 ≤ x) : g_at 136 7 L (.ref x :: S) Z I J = g_at 136 10 L (.int 0 :: S) Z I J := gq_getC e_136_7 h h1
theorem e_136_10 : g_Pg 136 10 = ga_goto 14 := (congrFun pg_136 10).trans rfl
theorem q_136_10 {L : List Value} {S : List Value} {Z : gZ} {I : gI} {J : gJ} : g_at 136 10 L S Z I J = g_at 136 14 L S Z I J := gq_goto e_136_10
theorem e_136_13 : g_Pg 136 13 = ga_push (.int 1) 14 := (congrFun pg_136 13).trans rfl
theorem q_136_13 {L : List Value} {S : List Value} {Z : gZ} {I : gI} {J : gJ} : g_at 136 13 L S Z I J = g_at 136 14 L (.int 1 :: S) Z I J := gq_push e_136_13
theorem e_136_14 : g_Pg 136 14 = ga_zret := (congrFun pg_136 14).trans rfl
theorem q_136_14 {L : List Value} {x : Int32} {Z : gZ} {I : gI} {J : gJ} (h : gB01 x = true) : g_at 136 14 L [.int x] Z I J = some (some (.int x), Z, I, J) := gq_zret e_136_14 h
theorem e_137_0 : g_Pg 137 0 = ga_push (.int 1) 3 := (congrFun pg_137 0).trans rfl
theorem q_137_0 {L : List Value} {S : List Value} {Z : gZ} {I : gI} {J : gJ} : g_at 137 0 L S Z I J = g_at 137 3 L (.int 1 :: S) Z I J := gq_push e_137_0
theorem e_137_3 : g_Pg 137 3 = ga_if (fun x => decide (x = 0)) 17 6 := (congrFun pg_137 3).trans rfl
theorem q_137_3 {L : List Value} {x : Int32} {S : List Value} {Z : gZ} {I : gI} {J : gJ} : g_at 137 3 L (.int x :: S) Z I J = if x = 0 then g_at 137 17 L S Z I J else g_at 137 6 L S Z I J := gq_if e_137_3 rfl
theorem e_137_6 : g_Pg 137 6 = ga_aload 0 7 := (congrFun pg_137 6).trans rfl
theorem q_137_6 {x : Nat} {S : List Value} {Z : gZ} {I : gI} {J : gJ} : g_at 137 6 [.ref x] S Z I J = g_at 137 7 [.ref x] (.ref x :: S) Z I J := gq_aload e_137_6 rfl
theorem e_137_7 : g_Pg 137 7 = ga_getC 10 := (congrFun pg_137 7).trans rfl
theorem q_137_7 {L : List Value} {x : Nat} {S : List Value} {Z : gZ} {I : gI} {J : gJ} (h : (gKd Z x).1 = 12) (h1 : 1000 ≤ x) : g_at 137 7 L (.ref x :: S) Z I J = g_at 137 10 L (.int 0 :: S) Z I J := gq_getC e_137_7 h h1
theorem e_137_10 : g_Pg 137 10 = ga_if (fun x => decide (¬ x = 0)) 17 13 := (congrFun pg_137 10).trans rfl
theorem q_137_10 {L : List Value} {x : Int32} {S : List Value} {Z : gZ} {I : gI} {J : gJ} : g_at 137 10 L (.int x :: S) Z I J = if ¬ x = 0 then g_at 137 17 L S Z I J else g_at 137 13 L S Z I J := gq_if e_137_10 rfl
theorem e_137_13 : g_Pg 137 13 = ga_push (.int 1) 14 := (congrFun pg_137 13).trans rfl
theorem q_137_13 {L : List Value} {S : List Value} {Z : gZ} {I : gI} {J : gJ} : g_at 137 13 L S Z I J = g_at 137 14 L (.int 1 :: S) Z I J := gq_push e_137_13
theorem e_137_14 : g_Pg 137 14 = ga_goto 18 := (congrFun pg_137 14).trans rfl
theorem q_137_14 {L : List Value} {S : List Value} {Z : gZ} {I : gI} {J : gJ} : g_at 137 14 L S Z I J = g_at 137 18 L S Z I J := gq_goto e_137_14
theorem e_137_17 : g_Pg 137 17 = ga_push (.int 0) 18 := (congrFun pg_137 17).trans rfl
theorem q_137_17 {L : List Value} {S : List Value} {Z : gZ} {I : gI} {J : gJ} : g_at 137 17 L S Z I J = g_at 137 18 L (.int 0 :: S) Z I J := gq_push e_137_17
theorem e_137_18 : g_Pg 137 18 = ga_zret := (congrFun pg_137 18).trans rfl
theorem q_137_18 {L : List Value} {x : Int32} {Z : gZ} {I : gI} {J : gJ} (h : gB01 x = true) : g_at 137 18 L [.int x] Z I J = some (some (.int x), Z, I, J) := gq_zret e_137_18 h
theorem e_138_0 : g_Pg 138 0 = ga_iload 0 1 := (congrFun pg_138 0).trans rfl
theorem q_138_0 {l1 : Value} {x : Int32} {S : List Value} {Z : gZ} {I : gI} {J : gJ} : g_at 138 0 [.int x, l1] S Z I J = g_at 138 1 [.int x, l1] (.int x :: S) Z I J := gq_iload e_138_0 rfl
theorem e_138_1 : g_Pg 138 1 = ga_iload 1 2 := (congrFun pg_138 1).trans rfl
theorem q_138_1 {l0 : Value} {x : Int32} {S : List Value} {Z : gZ} {I : gI} {J : gJ} : g_at 138 1 [l0, .int x] S Z I J = g_at 138 2 [l0, .int x] (.int x :: S) Z I J := gq_iload e_138_1 rfl
theorem e_138_2 : g_Pg 138 2 = ga_push (.retAddr 0) 5 := (congrFun pg_138 2).trans rfl
theorem q_138_2 {L : List Value} {S : List Value} {Z : gZ} {I : gI} {J : gJ} : g_at 138 2 L S Z I J = g_at 138 5 L (.retAddr 0 :: S) Z I J := gq_push e_138_2
theorem e_138_5 : g_Pg 138 5 = ga_call 141 3 8 := (congrFun pg_138 5).trans rfl
theorem q_138_5 {L : List Value} {a1 : Int32} {a2 : Int32} {Z : gZ} {I : gI} {J : gJ} : g_at 138 5 L [.retAddr 0, .int a1, .int a2] Z I J = (g_at 141 0 [.int a2, .int a1, .retAddr 0] [] Z I J).bind (fun r => g_at 138 8 L (r.1.toList ++ []) r.2.1 r.2.2.1 r.2.2.2) := gq_call e_138_5 rfl rfl rfl rfl rfl
theorem e_138_8 : g_Pg 138 8 = ga_pop 9 := (congrFun pg_138 8).trans rfl
theorem q_138_8 {L : List Value} {x : Int32} {S : List Value} {Z : gZ} {I : gI} {J : gJ} : g_at 138 8 L (.int x :: S) Z I J = g_at 138 9 L S Z I J := gq_pop e_138_8
theorem e_138_9 : g_Pg 138 9 = ga_vret := (congrFun pg_138 9).trans rfl
theorem q_138_9 {L : List Value} {Z : gZ} {I : gI} {J : gJ} : g_at 138 9 L [] Z I J = some (none, Z, I, J) := gq_vret e_138_9
theorem e_139_0 : g_Pg 139 0 = ga_iload 1 1 := (congrFun pg_139 0).trans rfl
theorem q_139_0 {l0 : Value} {x : Int32} {S : List Value} {Z : gZ} {I : gI} {J : gJ} : g_at 139 0 [l0, .int x] S Z I J = g_at 139 1 [l0, .int x] (.int x :: S) Z I J := gq_iload e_139_0 rfl
theorem e_139_1 : g_Pg 139 1 = ga_aload 0 2 := (congrFun pg_139 1).trans rfl
theorem q_139_1 {l1 : Value} {x : Nat} {S : List Value} {Z : gZ} {I : gI} {J : gJ} : g_at 139 1 [.ref x, l1] S Z I J = g_at 139 2 [.ref x, l1] (.ref x :: S) Z I J := gq_aload e_139_1 rfl
theorem e_139_2 : g_Pg 139 2 = ga_alen 3 := (congrFun pg_139 2).trans rfl
theorem q_139_2 {L : List Value} {a : Nat} {S : List Value} {Z : gZ} {I : gI} {J : gJ} (h : gTgA (gKd Z a).1 a = true) : g_at 139 2 L (.ref a :: S) Z I J = g_at 139 3 L (.int (Int32.ofNat (gKd Z a).2) :: S) Z I J := gq_alen e_139_2 h
theorem e_139_3 : g_Pg 139 3 = ga_call 138 2 6 := (congrFun pg_139 3).trans rfl
theorem q_139_3 {L : List Value} {a0 : Int32} {a1 : Int32} {Z : gZ} {I : gI} {J : gJ} : g_at 139 3 L [.int a0, .int a1] Z I J = (g_at 138 0 [.int a1, .int a0] [] Z I J).bind (fun r => g_at 139 6 L (r.1.toList ++ []) r.2.1 r.2.2.1 r.2.2.2) := gq_call e_139_3 rfl rfl rfl rfl rfl
theorem e_139_6 : g_Pg 139 6 = ga_aload 0 7 := (congrFun pg_139 6).trans rfl
theorem q_139_6 {l1 : Value} {x : Nat} {S : List Value} {Z : gZ} {I : gI} {J : gJ} : g_at 139 6 [.ref x, l1] S Z I J = g_at 139 7 [.ref x, l1] (.ref x :: S) Z I J := gq_aload e_139_6 rfl
theorem e_139_7 : g_Pg 139 7 = ga_iload 1 8 := (congrFun pg_139 7).trans rfl
theorem q_139_7 {l0 : Value} {x : Int32} {S : List Value} {Z : gZ} {I : gI} {J : gJ} : g_at 139 7 [l0, .int x] S Z I J = g_at 139 8 [l0, .int x] (.int x :: S) Z I J := gq_iload e_139_7 rfl
theorem e_139_8 : g_Pg 139 8 = ga_bald 9 := (congrFun pg_139 8).trans rfl
theorem q_139_8 {L : List Value} {a : Nat} {i : Int32} {S : List Value} {Z : gZ} {I : gI} {J : gJ} (h : gTg9 (gKd Z a).1 a = true) (h0 : 0 ≤ i) (h1 : i.toNatClampNeg < (gKd Z a).2) : g_at 139 8 L (.int i :: .ref a :: S) Z I J = g_at 139 9 L (.int (I a i.toNatClampNeg) :: S) Z I J := gq_bald e_139_8 h h0 h1
theorem e_139_9 : g_Pg 139 9 = ga_push (.int 255) 12 := (congrFun pg_139 9).trans rfl
theorem q_139_9 {L : List Value} {S : List Value} {Z : gZ} {I : gI} {J : gJ} : g_at 139 9 L S Z I J = g_at 139 12 L (.int 255 :: S) Z I J := gq_push e_139_9
theorem e_139_12 : g_Pg 139 12 = ga_bin (fun x y => x &&& y) 13 := (congrFun pg_139 12).trans rfl
theorem q_139_12 {L : List Value} {x y : Int32} {S : List Value} {Z : gZ} {I : gI} {J : gJ} : g_at 139 12 L (.int y :: .int x :: S) Z I J = g_at 139 13 L (.int (x &&& y) :: S) Z I J := gq_bin e_139_12
theorem e_139_13 : g_Pg 139 13 = ga_un (fun x => (x.toUInt32 % 65536).toInt32) 14 := (congrFun pg_139 13).trans rfl
theorem q_139_13 {L : List Value} {x : Int32} {S : List Value} {Z : gZ} {I : gI} {J : gJ} : g_at 139 13 L (.int x :: S) Z I J = g_at 139 14 L (.int (x.toUInt32 % 65536).toInt32 :: S) Z I J := gq_un e_139_13
theorem e_139_14 : g_Pg 139 14 = ga_cret := (congrFun pg_139 14).trans rfl
theorem q_139_14 {L : List Value} {x : Int32} {Z : gZ} {I : gI} {J : gJ} (h : narrow .char (.int x) = .int x) : g_at 139 14 L [.int x] Z I J = some (some (.int x), Z, I, J) := gq_cret e_139_14 h
theorem e_140_0 : g_Pg 140 0 = ga_push (.int 0) 1 := (congrFun pg_140 0).trans rfl
theorem q_140_0 {L : List Value} {S : List Value} {Z : gZ} {I : gI} {J : gJ} : g_at 140 0 L S Z I J = g_at 140 1 L (.int 0 :: S) Z I J := gq_push e_140_0
theorem e_140_1 : g_Pg 140 1 = ga_istore 2 2 := (congrFun pg_140 1).trans rfl
theorem q_140_1 {l0 l1 l2 l3 : Value} {x : Int32} {S : List Value} {Z : gZ} {I : gI} {J : gJ} (h : gN1 l1 = true) : g_at 140 1 [l0, l1, l2, l3] (.int x :: S) Z I J = g_at 140 2 [l0, l1, .int x, l3] S Z I J := gq_istore e_140_1 h rfl rfl
theorem e_140_2 : g_Pg 140 2 = ga_aload 0 3 := (congrFun pg_140 2).trans rfl
theorem q_140_2 {l1 l2 l3 : Value} {x : Nat} {S : List Value} {Z : gZ} {I : gI} {J : gJ} : g_at 140 2 [.ref x, l1, l2, l3] S Z I J = g_at 140 3 [.ref x, l1, l2, l3] (.ref x :: S) Z I J := gq_aload e_140_2 rfl
theorem e_140_3 : g_Pg 140 3 = ga_alen 4 := (congrFun pg_140 3).trans rfl
theorem q_140_3 {L : List Value} {a : Nat} {S : List Value} {Z : gZ} {I : gI} {J : gJ} (h : gTgA (gKd Z a).1 a = true) : g_at 140 3 L (.ref a :: S) Z I J = g_at 140 4 L (.int (Int32.ofNat (gKd Z a).2) :: S) Z I J := gq_alen e_140_3 h
theorem e_140_4 : g_Pg 140 4 = ga_istore 3 5 := (congrFun pg_140 4).trans rfl
theorem q_140_4 {l0 l1 l2 l3 : Value} {x : Int32} {S : List Value} {Z : gZ} {I : gI} {J : gJ} (h : gN1 l2 = true) : g_at 140 4 [l0, l1, l2, l3] (.int x :: S) Z I J = g_at 140 5 [l0, l1, l2, .int x] S Z I J := gq_istore e_140_4 h rfl rfl
theorem e_140_5 : g_Pg 140 5 = ga_iload 2 6 := (congrFun pg_140 5).trans rfl
theorem q_140_5 {l0 l1 l3 : Value} {x : Int32} {S : List Value} {Z : gZ} {I : gI} {J : gJ} : g_at 140 5 [l0, l1, .int x, l3] S Z I J = g_at 140 6 [l0, l1, .int x, l3] (.int x :: S) Z I J := gq_iload e_140_5 rfl
theorem e_140_6 : g_Pg 140 6 = ga_iload 3 7 := (congrFun pg_140 6).trans rfl
theorem q_140_6 {l0 l1 l2 : Value} {x : Int32} {S : List Value} {Z : gZ} {I : gI} {J : gJ} : g_at 140 6 [l0, l1, l2, .int x] S Z I J = g_at 140 7 [l0, l1, l2, .int x] (.int x :: S) Z I J := gq_iload e_140_6 rfl
theorem e_140_7 : g_Pg 140 7 = ga_cmp (fun x y => decide (y ≤ x)) 20 10 := (congrFun pg_140 7).trans rfl
theorem q_140_7 {L : List Value} {x y : Int32} {S : List Value} {Z : gZ} {I : gI} {J : gJ} : g_at 140 7 L (.int y :: .int x :: S) Z I J = if y ≤ x then g_at 140 20 L S Z I J else g_at 140 10 L S Z I J := gq_cmp e_140_7 rfl
theorem e_140_10 : g_Pg 140 10 = ga_aload 0 11 := (congrFun pg_140 10).trans rfl
theorem q_140_10 {l1 l2 l3 : Value} {x : Nat} {S : List Value} {Z : gZ} {I : gI} {J : gJ} : g_at 140 10 [.ref x, l1, l2, l3] S Z I J = g_at 140 11 [.ref x, l1, l2, l3] (.ref x :: S) Z I J := gq_aload e_140_10 rfl
theorem e_140_11 : g_Pg 140 11 = ga_iload 2 12 := (congrFun pg_140 11).trans rfl
theorem q_140_11 {l0 l1 l3 : Value} {x : Int32} {S : List Value} {Z : gZ} {I : gI} {J : gJ} : g_at 140 11 [l0, l1, .int x, l3] S Z I J = g_at 140 12 [l0, l1, .int x, l3] (.int x :: S) Z I J := gq_iload e_140_11 rfl
theorem e_140_12 : g_Pg 140 12 = ga_iload 1 13 := (congrFun pg_140 12).trans rfl
theorem q_140_12 {l0 l2 l3 : Value} {x : Int32} {S : List Value} {Z : gZ} {I : gI} {J : gJ} : g_at 140 12 [l0, .int x, l2, l3] S Z I J = g_at 140 13 [l0, .int x, l2, l3] (.int x :: S) Z I J := gq_iload e_140_12 rfl
theorem e_140_13 : g_Pg 140 13 = ga_iast 14 := (congrFun pg_140 13).trans rfl
theorem q_140_13 {L : List Value} {a : Nat} {i : Int32} {v : Int32} {S : List Value} {Z : gZ} {I : gI} {J : gJ} (h : (gKd Z a).1 = 8) (h0 : 0 ≤ i) (h1 : i.toNatClampNeg < (gKd Z a).2) : g_at 140 13 L (.int v :: .int i :: .ref a :: S) Z I J = g_at 140 14 L S Z (va_up I a (va_up (I a) i.toNatClampNeg v)) J := gq_iast e_140_13 h h0 h1
theorem e_140_14 : g_Pg 140 14 = ga_iinc 2 1 17 := (congrFun pg_140 14).trans rfl
theorem q_140_14 {l0 l1 l3 : Value} {x : Int32} {S : List Value} {Z : gZ} {I : gI} {J : gJ} (h : gN1 l1 = true) : g_at 140 14 [l0, l1, .int x, l3] S Z I J = g_at 140 17 [l0, l1, .int (x + 1), l3] S Z I J := gq_iinc e_140_14 rfl h rfl
theorem e_140_17 : g_Pg 140 17 = ga_goto 5 := (congrFun pg_140 17).trans rfl
theorem q_140_17 {L : List Value} {S : List Value} {Z : gZ} {I : gI} {J : gJ} : g_at 140 17 L S Z I J = g_at 140 5 L S Z I J := gq_goto e_140_17
theorem e_140_20 : g_Pg 140 20 = ga_vret := (congrFun pg_140 20).trans rfl
theorem q_140_20 {L : List Value} {Z : gZ} {I : gI} {J : gJ} : g_at 140 20 L [] Z I J = some (none, Z, I, J) := gq_vret e_140_20
theorem e_141_0 : g_Pg 141 0 = ga_iload 0 1 := (congrFun pg_141 0).trans rfl
theorem q_141_0 {l1 l2 : Value} {x : Int32} {S : List Value} {Z : gZ} {I : gI} {J : gJ} : g_at 141 0 [.int x, l1, l2] S Z I J = g_at 141 1 [.int x, l1, l2] (.int x :: S) Z I J := gq_iload e_141_0 rfl
theorem e_141_1 : g_Pg 141 1 = ga_if (fun x => decide (x < 0)) 9 4 := (congrFun pg_141 1).trans rfl
theorem q_141_1 {L : List Value} {x : Int32} {S : List Value} {Z : gZ} {I : gI} {J : gJ} : g_at 141 1 L (.int x :: S) Z I J = if x < 0 then g_at 141 9 L S Z I J else g_at 141 4 L S Z I J := gq_if e_141_1 rfl
theorem e_141_4 : g_Pg 141 4 = ga_iload 0 5 := (congrFun pg_141 4).trans rfl
theorem q_141_4 {l1 l2 : Value} {x : Int32} {S : List Value} {Z : gZ} {I : gI} {J : gJ} : g_at 141 4 [.int x, l1, l2] S Z I J = g_at 141 5 [.int x, l1, l2] (.int x :: S) Z I J := gq_iload e_141_4 rfl
theorem e_141_5 : g_Pg 141 5 = ga_iload 1 6 := (congrFun pg_141 5).trans rfl
theorem q_141_5 {l0 l2 : Value} {x : Int32} {S : List Value} {Z : gZ} {I : gI} {J : gJ} : g_at 141 5 [l0, .int x, l2] S Z I J = g_at 141 6 [l0, .int x, l2] (.int x :: S) Z I J := gq_iload e_141_5 rfl
theorem e_141_6 : g_Pg 141 6 = ga_cmp (fun x y => decide (x < y)) 16 9 := (congrFun pg_141 6).trans rfl
theorem q_141_6 {L : List Value} {x y : Int32} {S : List Value} {Z : gZ} {I : gI} {J : gJ} : g_at 141 6 L (.int y :: .int x :: S) Z I J = if x < y then g_at 141 16 L S Z I J else g_at 141 9 L S Z I J := gq_cmp e_141_6 rfl
theorem e_141_9 : g_Pg 141 9 = ga_aload 2 10 := (congrFun pg_141 9).trans rfl
theorem q_141_9 {l0 l1 : Value} {x : Nat} {S : List Value} {Z : gZ} {I : gI} {J : gJ} : g_at 141 9 [l0, l1, .ref x] S Z I J = g_at 141 10 [l0, l1, .ref x] (.ref x :: S) Z I J := gq_aload e_141_9 rfl
theorem e_141_10 : g_Pg 141 10 = ga_iload 0 11 := (congrFun pg_141 10).trans rfl
theorem q_141_10 {l1 l2 : Value} {x : Int32} {S : List Value} {Z : gZ} {I : gI} {J : gJ} : g_at 141 10 [.int x, l1, l2] S Z I J = g_at 141 11 [.int x, l1, l2] (.int x :: S) Z I J := gq_iload e_141_10 rfl
theorem e_141_11 : g_Pg 141 11 = ga_iload 1 12 := (congrFun pg_141 11).trans rfl
theorem q_141_11 {l0 l2 : Value} {x : Int32} {S : List Value} {Z : gZ} {I : gI} {J : gJ} : g_at 141 11 [l0, .int x, l2] S Z I J = g_at 141 12 [l0, .int x, l2] (.int x :: S) Z I J := gq_iload e_141_11 rfl
theorem e_141_16 : g_Pg 141 16 = ga_iload 0 17 := (congrFun pg_141 16).trans rfl
theorem q_141_16 {l1 l2 : Value} {x : Int32} {S : List Value} {Z : gZ} {I : gI} {J : gJ} : g_at 141 16 [.int x, l1, l2] S Z I J = g_at 141 17 [.int x, l1, l2] (.int x :: S) Z I J := gq_iload e_141_16 rfl
theorem e_141_17 : g_Pg 141 17 = ga_iret := (congrFun pg_141 17).trans rfl
theorem q_141_17 {L : List Value} {x : Int32} {Z : gZ} {I : gI} {J : gJ} : g_at 141 17 L [.int x] Z I J = some (some (.int x), Z, I, J) := gq_iret e_141_17
