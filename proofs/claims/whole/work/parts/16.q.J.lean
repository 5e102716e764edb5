theorem e_133_0 : g_Pg 133 0 = ga_iload 0 1 := (congrFun pg_133 0).trans rfl
theorem q_133_0 {x : Int32} {S : List Value} {Z : gZ} {I : gI} {J : gJ} : g_at 133 0 [.int x] S Z I J = g_at 133 1 [.int x] (.int x :: S) Z I J := gq_iload e_133_0 rfl
theorem e_133_1 : g_Pg 133 1 = ga_iload 0 2 := (congrFun pg_133 1).trans rfl
theorem q_133_1 {x : Int32} {S : List Value} {Z : gZ} {I : gI} {J : gJ} : g_at 133 1 [.int x] S Z I J = g_at 133 2 [.int x] (.int x :: S) Z I J := gq_iload e_133_1 rfl
theorem e_133_2 : g_Pg 133 2 = ga_push (.int 1) 3 := (congrFun pg_133 2).trans rfl
theorem q_133_2 {L : List Value} {S : List Value} {Z : gZ} {I : gI} {J : gJ} : g_at 133 2 L S Z I J = g_at 133 3 L (.int 1 :: S) Z I J := gq_push e_133_2
theorem e_133_3 : g_Pg 133 3 = ga_bin (fun x y => (x.toUInt32 >>> (y.toUInt32 &&& Int32.toUInt32 31)).toInt32) 4 := (congrFun pg_133 3).trans rfl
theorem q_133_3 {L : List Value} {x y : Int32} {S : List Value} {Z : gZ} {I : gI} {J : gJ} : g_at 133 3 L (.int y :: .int x :: S) Z I J = g_at 133 4 L (.int ((x.toUInt32 >>> (y.toUInt32 &&& Int32.toUInt32 31)).toInt32) :: S) Z I J := gq_bin e_133_3
theorem e_133_4 : g_Pg 133 4 = ga_push (.int 1431655765) 7 := (congrFun pg_133 4).trans rfl
theorem q_133_4 {L : List Value} {S : List Value} {Z : gZ} {I : gI} {J : gJ} : g_at 133 4 L S Z I J = g_at 133 7 L (.int 1431655765 :: S) Z I J := gq_push e_133_4
theorem e_133_7 : g_Pg 133 7 = ga_bin (fun x y => x &&& y) 8 := (congrFun pg_133 7).trans rfl
theorem q_133_7 {L : List Value} {x y : Int32} {S : List Value} {Z : gZ} {I : gI} {J : gJ} : g_at 133 7 L (.int y :: .int x :: S) Z I J = g_at 133 8 L (.int (x &&& y) :: S) Z I J := gq_bin e_133_7
theorem e_133_8 : g_Pg 133 8 = ga_bin (fun x y => x - y) 9 := (congrFun pg_133 8).trans rfl
theorem q_133_8 {L : List Value} {x y : Int32} {S : List Value} {Z : gZ} {I : gI} {J : gJ} : g_at 133 8 L (.int y :: .int x :: S) Z I J = g_at 133 9 L (.int (x - y) :: S) Z I J := gq_bin e_133_8
theorem e_133_9 : g_Pg 133 9 = ga_istore 0 10 := (congrFun pg_133 9).trans rfl
theorem q_133_9 {l0 : Value} {x : Int32} {S : List Value} {Z : gZ} {I : gI} {J : gJ} : g_at 133 9 [l0] (.int x :: S) Z I J = g_at 133 10 [.int x] S Z I J := gq_istore e_133_9 rfl rfl rfl
theorem e_133_10 : g_Pg 133 10 = ga_iload 0 11 := (congrFun pg_133 10).trans rfl
theorem q_133_10 {x : Int32} {S : List Value} {Z : gZ} {I : gI} {J : gJ} : g_at 133 10 [.int x] S Z I J = g_at 133 11 [.int x] (.int x :: S) Z I J := gq_iload e_133_10 rfl
theorem e_133_11 : g_Pg 133 11 = ga_push (.int 858993459) 14 := (congrFun pg_133 11).trans rfl
theorem q_133_11 {L : List Value} {S : List Value} {Z : gZ} {I : gI} {J : gJ} : g_at 133 11 L S Z I J = g_at 133 14 L (.int 858993459 :: S) Z I J := gq_push e_133_11
theorem e_133_14 : g_Pg 133 14 = ga_bin (fun x y => x &&& y) 15 := (congrFun pg_133 14).trans rfl
theorem q_133_14 {L : List Value} {x y : Int32} {S : List Value} {Z : gZ} {I : gI} {J : gJ} : g_at 133 14 L (.int y :: .int x :: S) Z I J = g_at 133 15 L (.int (x &&& y) :: S) Z I J := gq_bin e_133_14
theorem e_133_15 : g_Pg 133 15 = ga_iload 0 16 := (congrFun pg_133 15).trans rfl
theorem q_133_15 {x : Int32} {S : List Value} {Z : gZ} {I : gI} {J : gJ} : g_at 133 15 [.int x] S Z I J = g_at 133 16 [.int x] (.int x :: S) Z I J := gq_iload e_133_15 rfl
theorem e_133_16 : g_Pg 133 16 = ga_push (.int 2) 17 := (congrFun pg_133 16).trans rfl
theorem q_133_16 {L : List Value} {S : List Value} {Z : gZ} {I : gI} {J : gJ} : g_at 133 16 L S Z I J = g_at 133 17 L (.int 2 :: S) Z I J := gq_push e_133_16
theorem e_133_17 : g_Pg 133 17 = ga_bin (fun x y => (x.toUInt32 >>> (y.toUInt32 &&& Int32.toUInt32 31)).toInt32) 18 := (congrFun pg_133 17).trans rfl
theorem q_133_17 {L : List Value} {x y : Int32} {S : List Value} {Z : gZ} {I : gI} {J : gJ} : g_at 133 17 L (.int y :: .int x :: S) Z I J = g_at 133 18 L (.int ((x.toUInt32 >>> (y.toUInt32 &&& Int32.toUInt32 31)).toInt32) :: S) Z I J := gq_bin e_133_17
theorem e_133_18 : g_Pg 133 18 = ga_push (.int 858993459) 21 := (congrFun pg_133 18).trans rfl
theorem q_133_18 {L : List Value} {S : List Value} {Z : gZ} {I : gI} {J : gJ} : g_at 133 18 L S Z I J = g_at 133 21 L (.int 858993459 :: S) Z I J := gq_push e_133_18
theorem e_133_21 : g_Pg 133 21 = ga_bin (fun x y => x &&& y) 22 := (congrFun pg_133 21).trans rfl
theorem q_133_21 {L : List Value} {x y : Int32} {S : List Value} {Z : gZ} {I : gI} {J : gJ} : g_at 133 21 L (.int y :: .int x :: S) Z I J = g_at 133 22 L (.int (x &&& y) :: S) Z I J := gq_bin e_133_21
theorem e_133_22 : g_Pg 133 22 = ga_bin (fun x y => x + y) 23 := (congrFun pg_133 22).trans rfl
theorem q_133_22 {L : List Value} {x y : Int32} {S : List Value} {Z : gZ} {I : gI} {J : gJ} : g_at 133 22 L (.int y :: .int x :: S) Z I J = g_at 133 23 L (.int (x + y) :: S) Z I J := gq_bin e_133_22
theorem e_133_23 : g_Pg 133 23 = ga_istore 0 24 := (congrFun pg_133 23).trans rfl
theorem q_133_23 {l0 : Value} {x : Int32} {S : List Value} {Z : gZ} {I : gI} {J : gJ} : g_at 133 23 [l0] (.int x :: S) Z I J = g_at 133 24 [.int x] S Z I J := gq_istore e_133_23 rfl rfl rfl
theorem e_133_24 : g_Pg 133 24 = ga_iload 0 25 := (congrFun pg_133 24).trans rfl
theorem q_133_24 {x : Int32} {S : List Value} {Z : gZ} {I : gI} {J : gJ} : g_at 133 24 [.int x] S Z I J = g_at 133 25 [.int x] (.int x :: S) Z I J := gq_iload e_133_24 rfl
theorem e_133_25 : g_Pg 133 25 = ga_iload 0 26 := (congrFun pg_133 25).trans rfl
theorem q_133_25 {x : Int32} {S : List Value} {Z : gZ} {I : gI} {J : gJ} : g_at 133 25 [.int x] S Z I J = g_at 133 26 [.int x] (.int x :: S) Z I J := gq_iload e_133_25 rfl
theorem e_133_26 : g_Pg 133 26 = ga_push (.int 4) 27 := (congrFun pg_133 26).trans rfl
theorem q_133_26 {L : List Value} {S : List Value} {Z : gZ} {I : gI} {J : gJ} : g_at 133 26 L S Z I J = g_at 133 27 L (.int 4 :: S) Z I J := gq_push e_133_26
theorem e_133_27 : g_Pg 133 27 = ga_bin (fun x y => (x.toUInt32 >>> (y.toUInt32 &&& Int32.toUInt32 31)).toInt32) 28 := (congrFun pg_133 27).trans rfl
theorem q_133_27 {L : List Value} {x y : Int32} {S : List Value} {Z : gZ} {I : gI} {J : gJ} : g_at 133 27 L (.int y :: .int x :: S) Z I J = g_at 133 28 L (.int ((x.toUInt32 >>> (y.toUInt32 &&& Int32.toUInt32 31)).toInt32) :: S) Z I J := gq_bin e_133_27
theorem e_133_28 : g_Pg 133 28 = ga_bin (fun x y => x + y) 29 := (congrFun pg_133 28).trans rfl
theorem q_133_28 {L : List Value} {x y : Int32} {S : List Value} {Z : gZ} {I : gI} {J : gJ} : g_at 133 28 L (.int y :: .int x :: S) Z I J = g_at 133 29 L (.int (x + y) :: S) Z I J := gq_bin e_133_28
theorem e_133_29 : g_Pg 133 29 = ga_push (.int 252645135) 32 := (congrFun pg_133 29).trans rfl
theorem q_133_29 {L : List Value} {S : List Value} {Z : gZ} {I : gI} {J : gJ} : g_at 133 29 L S Z I J = g_at 133 32 L (.int 252645135 :: S) Z I J := gq_push e_133_29
theorem e_133_32 : g_Pg 133 32 = ga_bin (fun x y => x &&& y) 33 := (congrFun pg_133 32).trans rfl
theorem q_133_32 {L : List Value} {x y : Int32} {S : List Value} {Z : gZ} {I : gI} {J : gJ} : g_at 133 32 L (.int y :: .int x :: S) Z I J = g_at 133 33 L (.int (x &&& y) :: S) Z I J := gq_bin e_133_32
theorem e_133_33 : g_Pg 133 33 = ga_istore 0 34 := (congrFun pg_133 33).trans rfl
theorem q_133_33 {l0 : Value} {x : Int32} {S : List Value} {Z : gZ} {I : gI} {J : gJ} : g_at 133 33 [l0] (.int x :: S) Z I J = g_at 133 34 [.int x] S Z I J := gq_istore e_133_33 rfl rfl rfl
theorem e_133_34 : g_Pg 133 34 = ga_iload 0 35 := (congrFun pg_133 34).trans rfl
theorem q_133_34 {x : Int32} {S : List Value} {Z : gZ} {I : gI} {J : gJ} : g_at 133 34 [.int x] S Z I J = g_at 133 35 [.int x] (.int x :: S) Z I J := gq_iload e_133_34 rfl
theorem e_133_35 : g_Pg 133 35 = ga_iload 0 36 := (congrFun pg_133 35).trans rfl
theorem q_133_35 {x : Int32} {S : List Value} {Z : gZ} {I : gI} {J : gJ} : g_at 133 35 [.int x] S Z I J = g_at 133 36 [.int x] (.int x :: S) Z I J := gq_iload e_133_35 rfl
theorem e_133_36 : g_Pg 133 36 = ga_push (.int 8) 38 := (congrFun pg_133 36).trans rfl
theorem q_133_36 {L : List Value} {S : List Value} {Z : gZ} {I : gI} {J : gJ} : g_at 133 36 L S Z I J = g_at 133 38 L (.int 8 :: S) Z I J := gq_push e_133_36
theorem e_133_38 : g_Pg 133 38 = ga_bin (fun x y => (x.toUInt32 >>> (y.toUInt32 &&& Int32.toUInt32 31)).toInt32) 39 := (congrFun pg_133 38).trans rfl
theorem q_133_38 {L : List Value} {x y : Int32} {S : List Value} {Z : gZ} {I : gI} {J : gJ} : g_at 133 38 L (.int y :: .int x :: S) Z I J = g_at 133 39 L (.int ((x.toUInt32 >>> (y.toUInt32 &&& Int32.toUInt32 31)).toInt32) :: S) Z I J := gq_bin e_133_38
theorem e_133_39 : g_Pg 133 39 = ga_bin (fun x y => x + y) 40 := (congrFun pg_133 39).trans rfl
theorem q_133_39 {L : List Value} {x y : Int32} {S : List Value} {Z : gZ} {I : gI} {J : gJ} : g_at 133 39 L (.int y :: .int x :: S) Z I J = g_at 133 40 L (.int (x + y) :: S) Z I J := gq_bin e_133_39
theorem e_133_40 : g_Pg 133 40 = ga_istore 0 41 := (congrFun pg_133 40).trans rfl
theorem q_133_40 {l0 : Value} {x : Int32} {S : List Value} {Z : gZ} {I : gI} {J : gJ} : g_at 133 40 [l0] (.int x :: S) Z I J = g_at 133 41 [.int x] S Z I J := gq_istore e_133_40 rfl rfl rfl
theorem e_133_41 : g_Pg 133 41 = ga_iload 0 42 := (congrFun pg_133 41).trans rfl
theorem q_133_41 {x : Int32} {S : List Value} {Z : gZ} {I : gI} {J : gJ} : g_at 133 41 [.int x] S Z I J = g_at 133 42 [.int x] (.int x :: S) Z I J := gq_iload e_133_41 rfl
theorem e_133_42 : g_Pg 133 42 = ga_iload 0 43 := (congrFun pg_133 42).trans rfl
theorem q_133_42 {x : Int32} {S : List Value} {Z : gZ} {I : gI} {J : gJ} : g_at 133 42 [.int x] S Z I J = g_at 133 43 [.int x] (.int x :: S) Z I J := gq_iload e_133_42 rfl
theorem e_133_43 : g_Pg 133 43 = ga_push (.int 16) 45 := (congrFun pg_133 43).trans rfl
theorem q_133_43 {L : List Value} {S : List Value} {Z : gZ} {I : gI} {J : gJ} : g_at 133 43 L S Z I J = g_at 133 45 L (.int 16 :: S) Z I J := gq_push e_133_43
theorem e_133_45 : g_Pg 133 45 = ga_bin (fun x y => (x.toUInt32 >>> (y.toUInt32 &&& Int32.toUInt32 31)).toInt32) 46 := (congrFun pg_133 45).trans rfl
theorem q_133_45 {L : List Value} {x y : Int32} {S : List Value} {Z : gZ} {I : gI} {J : gJ} : g_at 133 45 L (.int y :: .int x :: S) Z I J = g_at 133 46 L (.int ((x.toUInt32 >>> (y.toUInt32 &&& Int32.toUInt32 31)).toInt32) :: S) Z I J := gq_bin e_133_45
theorem e_133_46 : g_Pg 133 46 = ga_bin (fun x y => x + y) 47 := (congrFun pg_133 46).trans rfl
theorem q_133_46 {L : List Value} {x y : Int32} {S : List Value} {Z : gZ} {I : gI} {J : gJ} : g_at 133 46 L (.int y :: .int x :: S) Z I J = g_at 133 47 L (.int (x + y) :: S) Z I J := gq_bin e_133_46
theorem e_133_47 : g_Pg 133 47 = ga_istore 0 48 := (congrFun pg_133 47).trans rfl
theorem q_133_47 {l0 : Value} {x : Int32} {S : List Value} {Z : gZ} {I : gI} {J : gJ} : g_at 133 47 [l0] (.int x :: S) Z I J = g_at 133 48 [.int x] S Z I J := gq_istore e_133_47 rfl rfl rfl
theorem e_133_48 : g_Pg 133 48 = ga_iload 0 49 := (congrFun pg_133 48).trans rfl
theorem q_133_48 {x : Int32} {S : List Value} {Z : gZ} {I : gI} {J : gJ} : g_at 133 48 [.int x] S Z I J = g_at 133 49 [.int x] (.int x :: S) Z I J := gq_iload e_133_48 rfl
theorem e_133_49 : g_Pg 133 49 = ga_push (.int 63) 51 := (congrFun pg_133 49).trans rfl
theorem q_133_49 {L : List Value} {S : List Value} {Z : gZ} {I : gI} {J : gJ} : g_at 133 49 L S Z I J = g_at 133 51 L (.int 63 :: S) Z I J := gq_push e_133_49
theorem e_133_51 : g_Pg 133 51 = ga_bin (fun x y => x &&& y) 52 := (congrFun pg_133 51).trans rfl
theorem q_133_51 {L : List Value} {x y : Int32} {S : List Value} {Z : gZ} {I : gI} {J : gJ} : g_at 133 51 L (.int y :: .int x :: S) Z I J = g_at 133 52 L (.int (x &&& y) :: S) Z I J := gq_bin e_133_51
theorem e_133_52 : g_Pg 133 52 = ga_iret := (congrFun pg_133 52).trans rfl
theorem q_133_52 {L : List Value} {x : Int32} {Z : gZ} {I : gI} {J : gJ} : g_at 133 52 L [.int x] Z I J = some (some (.int x), Z, I, J) := gq_iret e_133_52
theorem e_134_0 : g_Pg 134 0 = ga_iload 0 1 := (congrFun pg_134 0).trans rfl
theorem q_134_0 {x : Int32} {S : List Value} {Z : gZ} {I : gI} {J : gJ} : g_at 134 0 [.int x] S Z I J = g_at 134 1 [.int x] (.int x :: S) Z I J := gq_iload e_134_0 rfl
theorem e_134_1 : g_Pg 134 1 = ga_if (fun x => decide (0 ≤ x)) 9 4 := (congrFun pg_134 1).trans rfl
theorem q_134_1 {L : List Value} {x : Int32} {S : List Value} {Z : gZ} {I : gI} {J : gJ} : g_at 134 1 L (.int x :: S) Z I J = if 0 ≤ x then g_at 134 9 L S Z I J else g_at 134 4 L S Z I J := gq_if e_134_1 rfl
theorem e_134_4 : g_Pg 134 4 = ga_iload 0 5 := (congrFun pg_134 4).trans rfl
theorem q_134_4 {x : Int32} {S : List Value} {Z : gZ} {I : gI} {J : gJ} : g_at 134 4 [.int x] S Z I J = g_at 134 5 [.int x] (.int x :: S) Z I J := gq_iload e_134_4 rfl
theorem e_134_5 : g_Pg 134 5 = ga_un (fun x => -x) 6 := (congrFun pg_134 5).trans rfl
theorem q_134_5 {L : List Value} {x : Int32} {S : List Value} {Z : gZ} {I : gI} {J : gJ} : g_at 134 5 L (.int x :: S) Z I J = g_at 134 6 L (.int (-x) :: S) Z I J := gq_un e_134_5
theorem e_134_6 : g_Pg 134 6 = ga_goto 10 := (congrFun pg_134 6).trans rfl
theorem q_134_6 {L : List Value} {S : List Value} {Z : gZ} {I : gI} {J : gJ} : g_at 134 6 L S Z I J = g_at 134 10 L S Z I J := gq_goto e_134_6
theorem e_134_9 : g_Pg 134 9 = ga_iload 0 10 := (congrFun pg_134 9).trans rfl
theorem q_134_9 {x : Int32} {S : List Value} {Z : gZ} {I : gI} {J : gJ} : g_at 134 9 [.int x] S Z I J = g_at 134 10 [.int x] (.int x :: S) Z I J := gq_iload e_134_9 rfl
theorem e_134_10 : g_Pg 134 10 = ga_iret := (congrFun pg_134 10).trans rfl
theorem q_134_10 {L : List Value} {x : Int32} {Z : gZ} {I : gI} {J : gJ} : g_at 134 10 L [.int x] Z I J = some (some (.int x), Z, I, J) := gq_iret e_134_10
theorem e_135_0 : g_Pg 135 0 = ga_iload 0 1 := (congrFun pg_135 0).trans rfl
theorem q_135_0 {l1 : Value} {x : Int32} {S : List Value} {Z : gZ} {I : gI} {J : gJ} : g_at 135 0 [.int x, l1] S Z I J = g_at 135 1 [.int x, l1] (.int x :: S) Z I J := gq_iload e_135_0 rfl
theorem e_135_1 : g_Pg 135 1 = ga_iload 1 2 := (congrFun pg_135 1).trans rfl
theorem q_135_1 {l0 : Value} {x : Int32} {S : List Value} {Z : gZ} {I : gI} {J : gJ} : g_at 135 1 [l0, .int x] S Z I J = g_at 135 2 [l0, .int x] (.int x :: S) Z I J := gq_iload e_135_1 rfl
theorem e_135_2 : g_Pg 135 2 = ga_cmp (fun x y => decide (x < y)) 9 5 := (congrFun pg_135 2).trans rfl
theorem q_135_2 {L : List Value} {x y : Int32} {S : List Value} {Z : gZ} {I : gI} {J : gJ} : g_at 135 2 L (.int y :: .int x :: S) Z I J = if x < y then g_at 135 9 L S Z I J else g_at 135 5 L S Z I J := gq_cmp e_135_2 rfl
theorem e_135_5 : g_Pg 135 5 = ga_iload 0 6 := (congrFun pg_135 5).trans rfl
theorem q_135_5 {l1 : Value} {x : Int32} {S : List Value} {Z : gZ} {I : gI} {J : gJ} : g_at 135 5 [.int x, l1] S Z I J = g_at 135 6 [.int x, l1] (.int x :: S) Z I J := gq_iload e_135_5 rfl
theorem e_135_6 : g_Pg 135 6 = ga_goto 10 := (congrFun pg_135 6).trans rfl
theorem q_135_6 {L : List Value} {S : List Value} {Z : gZ} {I : gI} {J : gJ} : g_at 135 6 L S Z I J = g_at 135 10 L S Z I J := gq_goto e_135_6
theorem e_135_9 : g_Pg 135 9 = ga_iload 1 10 := (congrFun pg_135 9).trans rfl
theorem q_135_9 {l0 : Value} {x : Int32} {S : List Value} {Z : gZ} {I : gI} {J : gJ} : g_at 135 9 [l0, .int x] S Z I J = g_at 135 10 [l0, .int x] (.int x :: S) Z I J := gq_iload e_135_9 rfl
theorem e_135_10 : g_Pg 135 10 = ga_iret := (congrFun pg_135 10).trans rfl
theorem q_135_10 {L : List Value} {x : Int32} {Z : gZ} {I : gI} {J : gJ} : g_at 135 10 L [.int x] Z I J = some (some (.int x), Z, I, J) := gq_iret e_135_10
theorem e_136_0 : g_Pg 136 0 = ga_aload 0 1 := (congrFun pg_136 0).trans rfl
theorem q_136_0 {x : Nat} {S : List Value} {Z : gZ} {I : gI} {J : gJ} : g_at 136 0 [.ref x] S Z I J = g_at 136 1 [.ref x] (.ref x :: S) Z I J := gq_aload e_136_0 rfl
theorem e_136_1 : g_Pg 136 1 = ga_getS 4 := (congrFun pg_136 1).trans rfl
theorem q_136_1 {L : List Value} {x : Nat} {S : List Value} {Z : gZ} {I : gI} {J : gJ} (h : (gKd Z x).1 = 12) (h1 : 1000 ≤ x) : g_at 136 1 L (.ref x :: S) Z I J = g_at 136 4 L (.ref (x + 20) :: S) Z I J := gq_getS e_136_1 h h1
theorem e_136_4 : g_Pg 136 4 = ga_alen 5 := (congrFun pg_136 4).trans rfl
theorem q_136_4 {L : List Value} {a : Nat} {S : List Value} {Z : gZ} {I : gI} {J : gJ} (h : gTgA (gKd Z a).1 a = true) : g_at 136 4 L (.ref a :: S) Z I J = g_at 136 5 L (.int (Int32.ofNat (gKd Z a).2) :: S) Z I J := gq_alen e_136_4 h
theorem e_136_5 : g_Pg 136 5 = ga_aload 0 6 := (congrFun pg_136 5).trans rfl
theorem q_136_5 {x : Nat} {S : List Value} {Z : gZ} {I : gI} {J : gJ} : g_at 136 5 [.ref x] S Z I J = g_at 136 6 [.ref x] (.ref x :: S) Z I J := gq_aload e_136_5 rfl
theorem e_136_6 : g_Pg 136 6 = ga_callV 12 138 0 9 := (congrFun pg_136 6).trans rfl
theorem q_136_6 {L : List Value} {a0 : Nat} {r1 : Int32} {Z : gZ} {I : gI} {J : gJ} (h : (gKd Z a0).1 = 12) (h1 : 1000 ≤ a0) : g_at 136 6 L [.ref a0, .int r1] Z I J = (g_at 138 0 [.ref a0] [] Z I J).bind (fun r => g_at 136 9 L (r.1.toList ++ [.int r1]) r.2.1 r.2.2.1 r.2.2.2) := gq_callT e_136_6 rfl h h1 rfl rfl rfl rfl rfl
theorem e_136_9 : g_Pg 136 9 = ga_bin (fun x y => x >>> (y &&& 31)) 10 := (congrFun pg_136 9).trans rfl
theorem q_136_9 {L : List Value} {x y : Int32} {S : List Value} {Z : gZ} {I : gI} {J : gJ} : g_at 136 9 L (.int y :: .int x :: S) Z I J = g_at 136 10 L (.int (x >>> (y &&& 31)) :: S) Z I J := gq_bin e_136_9
theorem e_136_10 : g_Pg 136 10 = ga_iret := (congrFun pg_136 10).trans rfl
theorem q_136_10 {L : List Value} {x : Int32} {Z : gZ} {I : gI} {J : gJ} : g_at 136 10 L [.int x] Z I J = some (some (.int x), Z, I, J) := gq_iret e_136_10
theorem e_137_0 : g_Pg 137 0 = ga_aload 0 1 := (congrFun pg_137 0).trans rfl
theorem q_137_0 {l1 : Value} {x : Nat} {S : List Value} {Z : gZ} {I : gI} {J : gJ} : g_at 137 0 [.ref x, l1] S Z I J = g_at 137 1 [.ref x, l1] (.ref x :: S) Z I J := gq_aload e_137_0 rfl
theorem e_137_1 : g_Pg 137 1 = ga_callV 12 139 0 4 := (congrFun pg_137 1).trans rfl
theorem q_137_1 {L : List Value} {a0 : Nat} {Z : gZ} {I : gI} {J : gJ} (h : (gKd Z a0).1 = 12) (h1 : 1000 ≤ a0) : g_at 137 1 L [.ref a0] Z I J = (g_at 139 0 [.ref a0] [] Z I J).bind (fun r => g_at 137 4 L (r.1.toList ++ []) r.2.1 r.2.2.1 r.2.2.2) := gq_callT e_137_1 rfl h h1 rfl rfl rfl rfl rfl
theorem e_137_4 : g_Pg 137 4 = ga_if (fun x => decide (x = 0)) 16 7 := (congrFun pg_137 4).trans rfl
theorem q_137_4 {L : List Value} {x : Int32} {S : List Value} {Z : gZ} {I : gI} {J : gJ} : g_at 137 4 L (.int x :: S) Z I J = if x = 0 then g_at 137 16 L S Z I J else g_at 137 7 L S Z I J := gq_if e_137_4 rfl
theorem e_137_7 : g_Pg 137 7 = ga_aload 0 8 := (congrFun pg_137 7).trans rfl
theorem q_137_7 {l1 : Value} {x : Nat} {S : List Value} {Z : gZ} {I : gI} {J : gJ} : g_at 137 7 [.ref x, l1] S Z I J = g_at 137 8 [.ref x, l1] (.ref x :: S) Z I J := gq_aload e_137_7 rfl
theorem e_137_8 : g_Pg 137 8 = ga_getS 11 := (congrFun pg_137 8).trans rfl
theorem q_137_8 {L : List Value} {x : Nat} {S : List Value} {Z : gZ} {I : gI} {J : gJ} (h : (gKd Z x).1 = 12) (h1 : 1000 ≤ x) : g_at 137 8 L (.ref x :: S) Z I J = g_at 137 11 L (.ref (x + 20) :: S) Z I J := gq_getS e_137_8 h h1
theorem e_137_11 : g_Pg 137 11 = ga_iload 1 12 := (congrFun pg_137 11).trans rfl
theorem q_137_11 {l0 : Value} {x : Int32} {S : List Value} {Z : gZ} {I : gI} {J : gJ} : g_at 137 11 [l0, .int x] S Z I J = g_at 137 12 [l0, .int x] (.int x :: S) Z I J := gq_iload e_137_11 rfl
theorem e_137_12 : g_Pg 137 12 = ga_call 141 2 15 := (congrFun pg_137 12).trans rfl
theorem q_137_12 {L : List Value} {a0 : Int32} {a1 : Nat} {Z : gZ} {I : gI} {J : gJ} : g_at 137 12 L [.int a0, .ref a1] Z I J = (g_at 141 0 [.ref a1, .int a0] [] Z I J).bind (fun r => g_at 137 15 L (r.1.toList ++ []) r.2.1 r.2.2.1 r.2.2.2) := gq_call e_137_12 rfl rfl rfl rfl rfl
theorem e_137_15 : g_Pg 137 15 = ga_cret := (congrFun pg_137 15).trans rfl
theorem q_137_15 {L : List Value} {x : Int32} {Z : gZ} {I : gI} {J : gJ} (h : narrow .char (.int x) = .int x) : g_at 137 15 L [.int x] Z I J = some (some (.int x), Z, I, J) := gq_cret e_137_15 h
theorem e_137_16 : g_Pg 137 16 = ga_aload 0 17 := (congrFun pg_137 16).trans rfl
theorem q_137_16 {l1 : Value} {x : Nat} {S : List Value} {Z : gZ} {I : gI} {J : gJ} : g_at 137 16 [.ref x, l1] S Z I J = g_at 137 17 [.ref x, l1] (.ref x :: S) Z I J := gq_aload e_137_16 rfl
theorem e_137_17 : g_Pg 137 17 = ga_getS 20 := (congrFun pg_137 17).trans rfl
theorem q_137_17 {L : List Value} {x : Nat} {S : List Value} {Z : gZ} {I : gI} {J : gJ} (h : (gKd Z x).1 = 12) (h1 : 1000 ≤ x) : g_at 137 17 L (.ref x :: S) Z I J = g_at 137 20 L (.ref (x + 20) :: S) Z I J := gq_getS e_137_17 h h1
theorem e_137_20 : g_Pg 137 20 = ga_iload 1 21 := (congrFun pg_137 20).trans rfl
theorem q_137_20 {l0 : Value} {x : Int32} {S : List Value} {Z : gZ} {I : gI} {J : gJ} : g_at 137 20 [l0, .int x] S Z I J = g_at 137 21 [l0, .int x] (.int x :: S) Z I J := gq_iload e_137_20 rfl
theorem e_137_24 : g_Pg 137 24 = ga_cret := (congrFun pg_137 24).trans rfl
theorem q_137_24 {L : List Value} {x : Int32} {Z : gZ} {I : gI} {J : gJ} (h : narrow .char (.int x) = .int x) : g_at 137 24 L [.int x] Z I J = some (some (.int x), Z, I, J) := gq_cret e_137_24 h
theorem e_138_0 : g_Pg 138 0 = ga_push (.int 1) 3 := (congrFun pg_138 0).trans rfl
theorem q_138_0 {L : List Value} {S : List Value} {Z : gZ} {I : gI} {J : gJ} : g_at 138 0 L S Z I J = g_at 138 3 L (.int 1 :: S) Z I J := gq_push e_138_0
theorem e_138_3 : g_Pg 138 3 = ga_if (fun x => decide (x = 0)) 13 6 := (congrFun pg_138 3).trans rfl
theorem q_138_3 {L : List Value} {x : Int32} {S : List Value} {Z : gZ} {I : gI} {J : gJ} : g_at 138 3 L (.int x :: S) Z I J = if x = 0 then g_at 138 13 L S Z I J else g_at 138 6 L S Z I J := gq_if e_138_3 rfl
theorem e_138_6 : g_Pg 138 6 = ga_aload 0 7 := (congrFun pg_138 6).trans rfl
theorem q_138_6 {x : Nat} {S : List Value} {Z : gZ} {I : gI} {J : gJ} : g_at 138 6 [.ref x] S Z I J = g_at 138 7 [.ref x] (.ref x :: S) Z I J := gq_aload e_138_6 rfl
theorem e_138_7 : g_Pg 138 7 = ga_getC 10 := (congrFun pg_138 7).trans rfl
theorem q_138_7 {L : List Value} {x : Nat} {S : List Value} {Z : gZ} {I : gI} {J : gJ} (h : (gKd Z x).1 = 12) (h1 : 1000 ≤ x) : g_at 138 7 L (.ref x :: S) Z I J = g_at 138 10 L (.int 0 :: S) Z I J := gq_getC e_138_7 h h1
theorem e_138_10 : g_Pg 138 10 = ga_goto 14 := (congrFun pg_138 10).trans rfl
theorem q_138_10 {L : List Value} {S : List Value} {Z : gZ} {I : gI} {J : gJ} : g_at 138 10 L S Z I J = g_at 138 14 L S Z I J := gq_goto e_138_10
theorem e_138_13 : g_Pg 138 13 = ga_push (.int 1) 14 := (congrFun pg_138 13).trans rfl
theorem q_138_13 {L : List Value} {S : List Value} {Z : gZ} {I : gI} {J : gJ} : g_at 138 13 L S Z I J = g_at 138 14 L (.int 1 :: S) Z I J := gq_push e_138_13
theorem e_138_14 : g_Pg 138 14 = ga_zret := (congrFun pg_138 14).trans rfl
theorem q_138_14 {L : List Value} {x : Int32} {Z : gZ} {I : gI} {J : gJ} (h : gB01 x = true) : g_at 138 14 L [.int x] Z I J = some (some (.int x), Z, I, J) := gq_zret e_138_14 h
theorem e_139_0 : g_Pg 139 0 = ga_push (.int 1) 3 := (congrFun pg_139 0).trans rfl
theorem q_139_0 {L : List Value} {S : List Value} {Z : gZ} {I : gI} {J : gJ} : g_at 139 0 L S Z I J = g_at 139 3 L (.int 1 :: S) Z I J := gq_push e_139_0
theorem e_139_3 : g_Pg 139 3 = ga_if (fun x => decide (x = 0)) 17 6 := (congrFun pg_139 3).trans rfl
theorem q_139_3 {L : List Value} {x : Int32} {S : List Value} {Z : gZ} {I : gI} {J : gJ} : g_at 139 3 L (.int x :: S) Z I J = if x = 0 then g_at 139 17 L S Z I J else g_at 139 6 L S Z I J := gq_if e_139_3 rfl
theorem e_139_6 : g_Pg 139 6 = ga_aload 0 7 := (congrFun pg_139 6).trans rfl
theorem q_139_6 {x : Nat} {S : List Value} {Z : gZ} {I : gI} {J : gJ} : g_at 139 6 [.ref x] S Z I J = g_at 139 7 [.ref x] (.ref x :: S) Z I J := gq_aload e_139_6 rfl
theorem e_139_7 : g_Pg 139 7 = ga_getC 10 := (congrFun pg_139 7).trans rfl
theorem q_139_7 {L : List Value} {x : Nat} {S : List Value} {Z : gZ} {I : gI} {J : gJ} (h : (gKd Z x).1 = 12) (h1 : 1000 ≤ x) : g_at 139 7 L (.ref x :: S) Z I J = g_at 139 10 L (.int 0 :: S) Z I J := gq_getC e_139_7 h h1
theorem e_139_10 : g_Pg 139 10 = ga_if (fun x => decide (¬ x = 0)) 17 13 := (congrFun pg_139 10).trans rfl
theorem q_139_10 {L : List Value} {x : Int32} {S : List Value} {Z : gZ} {I : gI} {J : gJ} : g_at 139 10 L (.int x :: S) Z I J = if ¬ x = 0 then g_at 139 17 L S Z I J else g_at 139 13 L S Z I J := gq_if e_139_10 rfl
theorem e_139_13 : g_Pg 139 13 = ga_push (.int 1) 14 := (congrFun pg_139 13).trans rfl
theorem q_139_13 {L : List Value} {S : List Value} {Z : gZ} {I : gI} {J : gJ} : g_at 139 13 L S Z I J = g_at 139 14 L (.int 1 :: S) Z I J := gq_push e_139_13
theorem e_139_14 : g_Pg 139 14 = ga_goto 18 := (congrFun pg_139 14).trans rfl
theorem q_139_14 {L : List Value} {S : List Value} {Z : gZ} {I : gI} {J : gJ} : g_at 139 14 L S Z I J = g_at 139 18 L S Z I J := gq_goto e_139_14
theorem e_139_17 : g_Pg 139 17 = ga_push (.int 0) 18 := (congrFun pg_139 17).trans rfl
theorem q_139_17 {L : List Value} {S : List Value} {Z : gZ} {I : gI} {J : gJ} : g_at 139 17 L S Z I J = g_at 139 18 L (.int 0 :: S) Z I J := gq_push e_139_17
theorem e_139_18 : g_Pg 139 18 = ga_zret := (congrFun pg_139 18).trans rfl
theorem q_139_18 {L : List Value} {x : Int32} {Z : gZ} {I : gI} {J : gJ} (h : gB01 x = true) : g_at 139 18 L [.int x] Z I J = some (some (.int x), Z, I, J) := gq_zret e_139_18 h
theorem e_140_0 : g_Pg 140 0 = ga_iload 0 1 := (congrFun pg_140 0).trans rfl
theorem q_140_0 {l1 : Value} {x : Int32} {S : List Value} {Z : gZ} {I : gI} {J : gJ} : g_at 140 0 [.int x, l1] S Z I J = g_at 140 1 [.int x, l1] (.int x :: S) Z I J := gq_iload e_140_0 rfl
theorem e_140_1 : g_Pg 140 1 = ga_iload 1 2 := (congrFun pg_140 1).trans rfl
theorem q_140_1 {l0 : Value} {x : Int32} {S : List Value} {Z : gZ} {I : gI} {J : gJ} : g_at 140 1 [l0, .int x] S Z I J = g_at 140 2 [l0, .int x] (.int x :: S) Z I J := gq_iload e_140_1 rfl
theorem e_140_2 : g_Pg 140 2 = ga_push (.retAddr 0) 5 := (congrFun pg_140 2).trans rfl
theorem q_140_2 {L : List Value} {S : List Value} {Z : gZ} {I : gI} {J : gJ} : g_at 140 2 L S Z I J = g_at 140 5 L (.retAddr 0 :: S) Z I J := gq_push e_140_2
theorem e_140_5 : g_Pg 140 5 = ga_call 143 3 8 := (congrFun pg_140 5).trans rfl
theorem q_140_5 {L : List Value} {a1 : Int32} {a2 : Int32} {Z : gZ} {I : gI} {J : gJ} : g_at 140 5 L [.retAddr 0, .int a1, .int a2] Z I J = (g_at 143 0 [.int a2, .int a1, .retAddr 0] [] Z I J).bind (fun r => g_at 140 8 L (r.1.toList ++ []) r.2.1 r.2.2.1 r.2.2.2) := gq_call e_140_5 rfl rfl rfl rfl rfl
theorem e_140_8 : g_Pg 140 8 = ga_pop 9 := (congrFun pg_140 8).trans rfl
theorem q_140_8 {L : List Value} {x : Int32} {S : List Value} {Z : gZ} {I : gI} {J : gJ} : g_at 140 8 L (.int x :: S) Z I J = g_at 140 9 L S Z I J := gq_pop e_140_8
theorem e_140_9 : g_Pg 140 9 = ga_vret := (congrFun pg_140 9).trans rfl
theorem q_140_9 {L : List Value} {Z : gZ} {I : gI} {J : gJ} : g_at 140 9 L [] Z I J = some (none, Z, I, J) := gq_vret e_140_9
theorem e_141_0 : g_Pg 141 0 = ga_iload 1 1 := (congrFun pg_141 0).trans rfl
theorem q_141_0 {l0 : Value} {x : Int32} {S : List Value} {Z : gZ} {I : gI} {J : gJ} : g_at 141 0 [l0, .int x] S Z I J = g_at 141 1 [l0, .int x] (.int x :: S) Z I J := gq_iload e_141_0 rfl
theorem e_141_1 : g_Pg 141 1 = ga_aload 0 2 := (congrFun pg_141 1).trans rfl
theorem q_141_1 {l1 : Value} {x : Nat} {S : List Value} {Z : gZ} {I : gI} {J : gJ} : g_at 141 1 [.ref x, l1] S Z I J = g_at 141 2 [.ref x, l1] (.ref x :: S) Z I J := gq_aload e_141_1 rfl
theorem e_141_2 : g_Pg 141 2 = ga_alen 3 := (congrFun pg_141 2).trans rfl
theorem q_141_2 {L : List Value} {a : Nat} {S : List Value} {Z : gZ} {I : gI} {J : gJ} (h : gTgA (gKd Z a).1 a = true) : g_at 141 2 L (.ref a :: S) Z I J = g_at 141 3 L (.int (Int32.ofNat (gKd Z a).2) :: S) Z I J := gq_alen e_141_2 h
theorem e_141_3 : g_Pg 141 3 = ga_call 140 2 6 := (congrFun pg_141 3).trans rfl
theorem q_141_3 {L : List Value} {a0 : Int32} {a1 : Int32} {Z : gZ} {I : gI} {J : gJ} : g_at 141 3 L [.int a0, .int a1] Z I J = (g_at 140 0 [.int a1, .int a0] [] Z I J).bind (fun r => g_at 141 6 L (r.1.toList ++ []) r.2.1 r.2.2.1 r.2.2.2) := gq_call e_141_3 rfl rfl rfl rfl rfl
theorem e_141_6 : g_Pg 141 6 = ga_aload 0 7 := (congrFun pg_141 6).trans rfl
theorem q_141_6 {l1 : Value} {x : Nat} {S : List Value} {Z : gZ} {I : gI} {J : gJ} : g_at 141 6 [.ref x, l1] S Z I J = g_at 141 7 [.ref x, l1] (.ref x :: S) Z I J := gq_aload e_141_6 rfl
theorem e_141_7 : g_Pg 141 7 = ga_iload 1 8 := (congrFun pg_141 7).trans rfl
theorem q_141_7 {l0 : Value} {x : Int32} {S : List Value} {Z : gZ} {I : gI} {J : gJ} : g_at 141 7 [l0, .int x] S Z I J = g_at 141 8 [l0, .int x] (.int x :: S) Z I J := gq_iload e_141_7 rfl
theorem e_141_8 : g_Pg 141 8 = ga_bald 9 := (congrFun pg_141 8).trans rfl
theorem q_141_8 {L : List Value} {a : Nat} {i : Int32} {S : List Value} {Z : gZ} {I : gI} {J : gJ} (h : gTg9 (gKd Z a).1 a = true) (h0 : 0 ≤ i) (h1 : i.toNatClampNeg < (gKd Z a).2) : g_at 141 8 L (.int i :: .ref a :: S) Z I J = g_at 141 9 L (.int (I a i.toNatClampNeg) :: S) Z I J := gq_bald e_141_8 h h0 h1
theorem e_141_9 : g_Pg 141 9 = ga_push (.int 255) 12 := (congrFun pg_141 9).trans rfl
theorem q_141_9 {L : List Value} {S : List Value} {Z : gZ} {I : gI} {J : gJ} : g_at 141 9 L S Z I J = g_at 141 12 L (.int 255 :: S) Z I J := gq_push e_141_9
theorem e_141_12 : g_Pg 141 12 = ga_bin (fun x y => x &&& y) 13 := (congrFun pg_141 12).trans rfl
theorem q_141_12 {L : List Value} {x y : Int32} {S : List Value} {Z : gZ} {I : gI} {J : gJ} : g_at 141 12 L (.int y :: .int x :: S) Z I J = g_at 141 13 L (.int (x &&& y) :: S) Z I J := gq_bin e_141_12
theorem e_141_13 : g_Pg 141 13 = ga_un (fun x => (x.toUInt32 % 65536).toInt32) 14 := (congrFun pg_141 13).trans rfl
theorem q_141_13 {L : List Value} {x : Int32} {S : List Value} {Z : gZ} {I : gI} {J : gJ} : g_at 141 13 L (.int x :: S) Z I J = g_at 141 14 L (.int (x.toUInt32 % 65536).toInt32 :: S) Z I J := gq_un e_141_13
theorem e_141_14 : g_Pg 141 14 = ga_cret := (congrFun pg_141 14).trans rfl
theorem q_141_14 {L : List Value} {x : Int32} {Z : gZ} {I : gI} {J : gJ} (h : narrow .char (.int x) = .int x) : g_at 141 14 L [.int x] Z I J = some (some (.int x), Z, I, J) := gq_cret e_141_14 h
theorem e_142_0 : g_Pg 142 0 = ga_push (.int 0) 1 := (congrFun pg_142 0).trans rfl
theorem q_142_0 {L : List Value} {S : List Value} {Z : gZ} {I : gI} {J : gJ} : g_at 142 0 L S Z I J = g_at 142 1 L (.int 0 :: S) Z I J := gq_push e_142_0
theorem e_142_1 : g_Pg 142 1 = ga_istore 2 2 := (congrFun pg_142 1).trans rfl
theorem q_142_1 {l0 l1 l2 l3 : Value} {x : Int32} {S : List Value} {Z : gZ} {I : gI} {J : gJ} (h : gN1 l1 = true) : g_at 142 1 [l0, l1, l2, l3] (.int x :: S) Z I J = g_at 142 2 [l0, l1, .int x, l3] S Z I J := gq_istore e_142_1 h rfl rfl
theorem e_142_2 : g_Pg 142 2 = ga_aload 0 3 := (congrFun pg_142 2).trans rfl
theorem q_142_2 {l1 l2 l3 : Value} {x : Nat} {S : List Value} {Z : gZ} {I : gI} {J : gJ} : g_at 142 2 [.ref x, l1, l2, l3] S Z I J = g_at 142 3 [.ref x, l1, l2, l3] (.ref x :: S) Z I J := gq_aload e_142_2 rfl
theorem e_142_3 : g_Pg 142 3 = ga_alen 4 := (congrFun pg_142 3).trans rfl
theorem q_142_3 {L : List Value} {a : Nat} {S : List Value} {Z : gZ} {I : gI} {J : gJ} (h : gTgA (gKd Z a).1 a = true) : g_at 142 3 L (.ref a :: S) Z I J = g_at 142 4 L (.int (Int32.ofNat (gKd Z a).2) :: S) Z I J := gq_alen e_142_3 h
theorem e_142_4 : g_Pg 142 4 = ga_istore 3 5 := (congrFun pg_142 4).trans rfl
theorem q_142_4 {l0 l1 l2 l3 : Value} {x : Int32} {S : List Value} {Z : gZ} {I : gI} {J : gJ} (h : gN1 l2 = true) : g_at 142 4 [l0, l1, l2, l3] (.int x :: S) Z I J = g_at 142 5 [l0, l1, l2, .int x] S Z I J := gq_istore e_142_4 h rfl rfl
theorem e_142_5 : g_Pg 142 5 = ga_iload 2 6 := (congrFun pg_142 5).trans rfl
theorem q_142_5 {l0 l1 l3 : Value} {x : Int32} {S : List Value} {Z : gZ} {I : gI} {J : gJ} : g_at 142 5 [l0, l1, .int x, l3] S Z I J = g_at 142 6 [l0, l1, .int x, l3] (.int x :: S) Z I J := gq_iload e_142_5 rfl
theorem e_142_6 : g_Pg 142 6 = ga_iload 3 7 := (congrFun pg_142 6).trans rfl
theorem q_142_6 {l0 l1 l2 : Value} {x : Int32} {S : List Value} {Z : gZ} {I : gI} {J : gJ} : g_at 142 6 [l0, l1, l2, .int x] S Z I J = g_at 142 7 [l0, l1, l2, .int x] (.int x :: S) Z I J := gq_iload e_142_6 rfl
theorem e_142_7 : g_Pg 142 7 = ga_cmp (fun x y => decide (y ≤ x)) 20 10 := (congrFun pg_142 7).trans rfl
theorem q_142_7 {L : List Value} {x y : Int32} {S : List Value} {Z : gZ} {I : gI} {J : gJ} : g_at 142 7 L (.int y :: .int x :: S) Z I J = if y ≤ x then g_at 142 20 L S Z I J else g_at 142 10 L S Z I J := gq_cmp e_142_7 rfl
theorem e_142_10 : g_Pg 142 10 = ga_aload 0 11 := (congrFun pg_142 10).trans rfl
theorem q_142_10 {l1 l2 l3 : Value} {x : Nat} {S : List Value} {Z : gZ} {I : gI} {J : gJ} : g_at 142 10 [.ref x, l1, l2, l3] S Z I J = g_at 142 11 [.ref x, l1, l2, l3] (.ref x :: S) Z I J := gq_aload e_142_10 rfl
theorem e_142_11 : g_Pg 142 11 = ga_iload 2 12 := (congrFun pg_142 11).trans rfl
theorem q_142_11 {l0 l1 l3 : Value} {x : Int32} {S : List Value} {Z : gZ} {I : gI} {J : gJ} : g_at 142 11 [l0, l1, .int x, l3] S Z I J = g_at 142 12 [l0, l1, .int x, l3] (.int x :: S) Z I J := gq_iload e_142_11 rfl
theorem e_142_12 : g_Pg 142 12 = ga_iload 1 13 := (congrFun pg_142 12).trans rfl
theorem q_142_12 {l0 l2 l3 : Value} {x : Int32} {S : List Value} {Z : gZ} {I : gI} {J : gJ} : g_at 142 12 [l0, .int x, l2, l3] S Z I J = g_at 142 13 [l0, .int x, l2, l3] (.int x :: S) Z I J := gq_iload e_142_12 rfl
theorem e_142_13 : g_Pg 142 13 = ga_iast 14 := (congrFun pg_142 13).trans rfl
theorem q_142_13 {L : List Value} {a : Nat} {i : Int32} {v : Int32} {S : List Value} {Z : gZ} {I : gI} {J : gJ} (h : (gKd Z a).1 = 8) (h0 : 0 ≤ i) (h1 : i.toNatClampNeg < (gKd Z a).2) : g_at 142 13 L (.int v :: .int i :: .ref a :: S) Z I J = g_at 142 14 L S Z (va_up I a (va_up (I a) i.toNatClampNeg v)) J := gq_iast e_142_13 h h0 h1
theorem e_142_14 : g_Pg 142 14 = ga_iinc 2 1 17 := (congrFun pg_142 14).trans rfl
theorem q_142_14 {l0 l1 l3 : Value} {x : Int32} {S : List Value} {Z : gZ} {I : gI} {J : gJ} (h : gN1 l1 = true) : g_at 142 14 [l0, l1, .int x, l3] S Z I J = g_at 142 17 [l0, l1, .int (x + 1), l3] S Z I J := gq_iinc e_142_14 rfl h rfl
theorem e_142_17 : g_Pg 142 17 = ga_goto 5 := (congrFun pg_142 17).trans rfl
theorem q_142_17 {L : List Value} {S : List Value} {Z : gZ} {I : gI} {J : gJ} : g_at 142 17 L S Z I J = g_at 142 5 L S Z I J := gq_goto e_142_17
theorem e_142_20 : g_Pg 142 20 = ga_vret := (congrFun pg_142 20).trans rfl
theorem q_142_20 {L : List Value} {Z : gZ} {I : gI} {J : gJ} : g_at 142 20 L [] Z I J = some (none, Z, I, J) := gq_vret e_142_20
theorem e_143_0 : g_Pg 143 0 = ga_iload 0 1 := (congrFun pg_143 0).trans rfl
theorem q_143_0 {l1 l2 : Value} {x : Int32} {S : List Value} {Z : gZ} {I : gI} {J : gJ} : g_at 143 0 [.int x, l1, l2] S Z I J = g_at 143 1 [.int x, l1, l2] (.int x :: S) Z I J := gq_iload e_143_0 rfl
theorem e_143_1 : g_Pg 143 1 = ga_if (fun x => decide (x < 0)) 9 4 := (congrFun pg_143 1).trans rfl
theorem q_143_1 {L : List Value} {x : Int32} {S : List Value} {Z : gZ} {I : gI} {J : gJ} : g_at 143 1 L (.int x :: S) Z I J = if x < 0 then g_at 143 9 L S Z I J else g_at 143 4 L S Z I J := gq_if e_143_1 rfl
theorem e_143_4 : g_Pg 143 4 = ga_iload 0 5 := (congrFun pg_143 4).trans rfl
theorem q_143_4 {l1 l2 : Value} {x : Int32} {S : List Value} {Z : gZ} {I : gI} {J : gJ} : g_at 143 4 [.int x, l1, l2] S Z I J = g_at 143 5 [.int x, l1, l2] (.int x :: S) Z I J := gq_iload e_143_4 rfl
theorem e_143_5 : g_Pg 143 5 = ga_iload 1 6 := (congrFun pg_143 5).trans rfl
theorem q_143_5 {l0 l2 : Value} {x : Int32} {S : List Value} {Z : gZ} {I : gI} {J : gJ} : g_at 143 5 [l0, .int x, l2] S Z I J = g_at 143 6 [l0, .int x, l2] (.int x :: S) Z I J := gq_iload e_143_5 rfl
theorem e_143_6 : g_Pg 143 6 = ga_cmp (fun x y => decide (x < y)) 16 9 := (congrFun pg_143 6).trans rfl
theorem q_143_6 {L : List Value} {x y : Int32} {S : List Value} {Z : gZ} {I : gI} {J : gJ} : g_at 143 6 L (.int y :: .int x :: S) Z I J = if x < y then g_at 143 16 L S Z I J else g_at 143 9 L S Z I J := gq_cmp e_143_6 rfl
theorem e_143_9 : g_Pg 143 9 = ga_aload 2 10 := (congrFun pg_143 9).trans rfl
theorem q_143_9 {l0 l1 : Value} {x : Nat} {S : List Value} {Z : gZ} {I : gI} {J : gJ} : g_at 143 9 [l0, l1, .ref x] S Z I J = g_at 143 10 [l0, l1, .ref x] (.ref x :: S) Z I J := gq_aload e_143_9 rfl
theorem e_143_10 : g_Pg 143 10 = ga_iload 0 11 := (congrFun pg_143 10).trans rfl
theorem q_143_10 {l1 l2 : Value} {x : Int32} {S : List Value} {Z : gZ} {I : gI} {J : gJ} : g_at 143 10 [.int x, l1, l2] S Z I J = g_at 143 11 [.int x, l1, l2] (.int x :: S) Z I J := gq_iload e_143_10 rfl
theorem e_143_11 : g_Pg 143 11 = ga_iload 1 12 := (congrFun pg_143 11).trans rfl
theorem q_143_11 {l0 l2 : Value} {x : Int32} {S : List Value} {Z : gZ} {I : gI} {J : gJ} : g_at 143 11 [l0, .int x, l2] S Z I J = g_at 143 12 [l0, .int x, l2] (.int x :: S) Z I J := gq_iload e_143_11 rfl
theorem e_143_16 : g_Pg 143 16 = ga_iload 0 17 := (congrFun pg_143 16).trans rfl
theorem q_143_16 {l1 l2 : Value} {x : Int32} {S : List Value} {Z : gZ} {I : gI} {J : gJ} : g_at 143 16 [.int x, l1, l2] S Z I J = g_at 143 17 [.int x, l1, l2] (.int x :: S) Z I J := gq_iload e_143_16 rfl
theorem e_143_17 : g_Pg 143 17 = ga_iret := (congrFun pg_143 17).trans rfl
theorem q_143_17 {L : List Value} {x : Int32} {Z : gZ} {I : gI} {J : gJ} : g_at 143 17 L [.int x] Z I J = some (some (.int x), Z, I, J) := gq_iret e_143_17
