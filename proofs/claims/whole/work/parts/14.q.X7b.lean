theorem e_99_0 : g_Pg 99 0 = ga_aload 0 1 := (congrFun pg_99 0).trans rfl
theorem q_99_0 {l1 : Value} {x : Nat} {S : List Value} {Z : gZ} {I : gI} {J : gJ} : g_at 99 0 [.ref x, l1] S Z I J = g_at 99 1 [.ref x, l1] (.ref x :: S) Z I J := gq_aload e_99_0 rfl
theorem e_99_1 : g_Pg 99 1 = ga_getR 7 1 4 := (congrFun pg_99 1).trans rfl
theorem q_99_1 {L : List Value} {a : Nat} {S : List Value} {Z : gZ} {I : gI} {J : gJ} (h : (gKd Z a).1 = 7) (h1 : gRs Z a 1 = true) : g_at 99 1 L (.ref a :: S) Z I J = g_at 99 4 L (.ref (gRq Z a 1) :: S) Z I J := gq_getR e_99_1 h h1
theorem e_99_4 : g_Pg 99 4 = ga_iload 1 5 := (congrFun pg_99 4).trans rfl
theorem q_99_4 {l0 : Value} {x : Int32} {S : List Value} {Z : gZ} {I : gI} {J : gJ} : g_at 99 4 [l0, .int x] S Z I J = g_at 99 5 [l0, .int x] (.int x :: S) Z I J := gq_iload e_99_4 rfl
theorem e_99_5 : g_Pg 99 5 = ga_iald 6 := (congrFun pg_99 5).trans rfl
theorem q_99_5 {L : List Value} {a : Nat} {i : Int32} {S : List Value} {Z : gZ} {I : gI} {J : gJ} (h : gTg8 (gKd Z a).1 a = true) (h0 : 0 ≤ i) (h1 : i.toNatClampNeg < (gKd Z a).2) : g_at 99 5 L (.int i :: .ref a :: S) Z I J = g_at 99 6 L (.int (I a i.toNatClampNeg) :: S) Z I J := gq_iald e_99_5 h h0 h1
theorem e_99_6 : g_Pg 99 6 = ga_push (.int (-1)) 7 := (congrFun pg_99 6).trans rfl
theorem q_99_6 {L : List Value} {S : List Value} {Z : gZ} {I : gI} {J : gJ} : g_at 99 6 L S Z I J = g_at 99 7 L (.int (-1) :: S) Z I J := gq_push e_99_6
theorem e_99_7 : g_Pg 99 7 = ga_cmp (fun x y => decide (x = y)) 47 10 := (congrFun pg_99 7).trans rfl
theorem q_99_7 {L : List Value} {x y : Int32} {S : List Value} {Z : gZ} {I : gI} {J : gJ} : g_at 99 7 L (.int y :: .int x :: S) Z I J = if x = y then g_at 99 47 L S Z I J else g_at 99 10 L S Z I J := gq_cmp e_99_7 rfl
theorem e_99_10 : g_Pg 99 10 = ga_aload 0 11 := (congrFun pg_99 10).trans rfl
theorem q_99_10 {l1 : Value} {x : Nat} {S : List Value} {Z : gZ} {I : gI} {J : gJ} : g_at 99 10 [.ref x, l1] S Z I J = g_at 99 11 [.ref x, l1] (.ref x :: S) Z I J := gq_aload e_99_10 rfl
theorem e_99_11 : g_Pg 99 11 = ga_getR 7 3 14 := (congrFun pg_99 11).trans rfl
theorem q_99_11 {L : List Value} {a : Nat} {S : List Value} {Z : gZ} {I : gI} {J : gJ} (h : (gKd Z a).1 = 7) (h1 : gRs Z a 3 = true) : g_at 99 11 L (.ref a :: S) Z I J = g_at 99 14 L (.ref (gRq Z a 3) :: S) Z I J := gq_getR e_99_11 h h1
theorem e_99_14 : g_Pg 99 14 = ga_iload 1 15 := (congrFun pg_99 14).trans rfl
theorem q_99_14 {l0 : Value} {x : Int32} {S : List Value} {Z : gZ} {I : gI} {J : gJ} : g_at 99 14 [l0, .int x] S Z I J = g_at 99 15 [l0, .int x] (.int x :: S) Z I J := gq_iload e_99_14 rfl
theorem e_99_15 : g_Pg 99 15 = ga_iald 16 := (congrFun pg_99 15).trans rfl
theorem q_99_15 {L : List Value} {a : Nat} {i : Int32} {S : List Value} {Z : gZ} {I : gI} {J : gJ} (h : gTg8 (gKd Z a).1 a = true) (h0 : 0 ≤ i) (h1 : i.toNatClampNeg < (gKd Z a).2) : g_at 99 15 L (.int i :: .ref a :: S) Z I J = g_at 99 16 L (.int (I a i.toNatClampNeg) :: S) Z I J := gq_iald e_99_15 h h0 h1
theorem e_99_16 : g_Pg 99 16 = ga_push (.int 1) 17 := (congrFun pg_99 16).trans rfl
theorem q_99_16 {L : List Value} {S : List Value} {Z : gZ} {I : gI} {J : gJ} : g_at 99 16 L S Z I J = g_at 99 17 L (.int 1 :: S) Z I J := gq_push e_99_16
theorem e_99_17 : g_Pg 99 17 = ga_cmp (fun x y => decide (x = y)) 47 20 := (congrFun pg_99 17).trans rfl
theorem q_99_17 {L : List Value} {x y : Int32} {S : List Value} {Z : gZ} {I : gI} {J : gJ} : g_at 99 17 L (.int y :: .int x :: S) Z I J = if x = y then g_at 99 47 L S Z I J else g_at 99 20 L S Z I J := gq_cmp e_99_17 rfl
theorem e_99_20 : g_Pg 99 20 = ga_aload 0 21 := (congrFun pg_99 20).trans rfl
theorem q_99_20 {l1 : Value} {x : Nat} {S : List Value} {Z : gZ} {I : gI} {J : gJ} : g_at 99 20 [.ref x, l1] S Z I J = g_at 99 21 [.ref x, l1] (.ref x :: S) Z I J := gq_aload e_99_20 rfl
theorem e_99_21 : g_Pg 99 21 = ga_getR 7 2 24 := (congrFun pg_99 21).trans rfl
theorem q_99_21 {L : List Value} {a : Nat} {S : List Value} {Z : gZ} {I : gI} {J : gJ} (h : (gKd Z a).1 = 7) (h1 : gRs Z a 2 = true) : g_at 99 21 L (.ref a :: S) Z I J = g_at 99 24 L (.ref (gRq Z a 2) :: S) Z I J := gq_getR e_99_21 h h1
theorem e_99_24 : g_Pg 99 24 = ga_iload 1 25 := (congrFun pg_99 24).trans rfl
theorem q_99_24 {l0 : Value} {x : Int32} {S : List Value} {Z : gZ} {I : gI} {J : gJ} : g_at 99 24 [l0, .int x] S Z I J = g_at 99 25 [l0, .int x] (.int x :: S) Z I J := gq_iload e_99_24 rfl
theorem e_99_25 : g_Pg 99 25 = ga_iald 26 := (congrFun pg_99 25).trans rfl
theorem q_99_25 {L : List Value} {a : Nat} {i : Int32} {S : List Value} {Z : gZ} {I : gI} {J : gJ} (h : gTg8 (gKd Z a).1 a = true) (h0 : 0 ≤ i) (h1 : i.toNatClampNeg < (gKd Z a).2) : g_at 99 25 L (.int i :: .ref a :: S) Z I J = g_at 99 26 L (.int (I a i.toNatClampNeg) :: S) Z I J := gq_iald e_99_25 h h0 h1
theorem e_99_26 : g_Pg 99 26 = ga_aload 0 27 := (congrFun pg_99 26).trans rfl
theorem q_99_26 {l1 : Value} {x : Nat} {S : List Value} {Z : gZ} {I : gI} {J : gJ} : g_at 99 26 [.ref x, l1] S Z I J = g_at 99 27 [.ref x, l1] (.ref x :: S) Z I J := gq_aload e_99_26 rfl
theorem e_99_27 : g_Pg 99 27 = ga_getI 7 5 30 := (congrFun pg_99 27).trans rfl
theorem q_99_27 {L : List Value} {a : Nat} {S : List Value} {Z : gZ} {I : gI} {J : gJ} (h : (gKd Z a).1 = 7) : g_at 99 27 L (.ref a :: S) Z I J = g_at 99 30 L (.int (I a 5) :: S) Z I J := gq_getI e_99_27 h
theorem e_99_30 : g_Pg 99 30 = ga_push (.int 1) 31 := (congrFun pg_99 30).trans rfl
theorem q_99_30 {L : List Value} {S : List Value} {Z : gZ} {I : gI} {J : gJ} : g_at 99 30 L S Z I J = g_at 99 31 L (.int 1 :: S) Z I J := gq_push e_99_30
theorem e_99_31 : g_Pg 99 31 = ga_cmp (fun x y => decide (¬ x = y)) 38 34 := (congrFun pg_99 31).trans rfl
theorem q_99_31 {L : List Value} {x y : Int32} {S : List Value} {Z : gZ} {I : gI} {J : gJ} : g_at 99 31 L (.int y :: .int x :: S) Z I J = if ¬ x = y then g_at 99 38 L S Z I J else g_at 99 34 L S Z I J := gq_cmp e_99_31 rfl
theorem e_99_34 : g_Pg 99 34 = ga_push (.int 4) 35 := (congrFun pg_99 34).trans rfl
theorem q_99_34 {L : List Value} {S : List Value} {Z : gZ} {I : gI} {J : gJ} : g_at 99 34 L S Z I J = g_at 99 35 L (.int 4 :: S) Z I J := gq_push e_99_34
theorem e_99_35 : g_Pg 99 35 = ga_goto 40 := (congrFun pg_99 35).trans rfl
theorem q_99_35 {L : List Value} {S : List Value} {Z : gZ} {I : gI} {J : gJ} : g_at 99 35 L S Z I J = g_at 99 40 L S Z I J := gq_goto e_99_35
theorem e_99_38 : g_Pg 99 38 = ga_push (.int 9) 40 := (congrFun pg_99 38).trans rfl
theorem q_99_38 {L : List Value} {S : List Value} {Z : gZ} {I : gI} {J : gJ} : g_at 99 38 L S Z I J = g_at 99 40 L (.int 9 :: S) Z I J := gq_push e_99_38
theorem e_99_40 : g_Pg 99 40 = ga_cmp (fun x y => decide (y < x)) 47 43 := (congrFun pg_99 40).trans rfl
theorem q_99_40 {L : List Value} {x y : Int32} {S : List Value} {Z : gZ} {I : gI} {J : gJ} : g_at 99 40 L (.int y :: .int x :: S) Z I J = if y < x then g_at 99 47 L S Z I J else g_at 99 43 L S Z I J := gq_cmp e_99_40 rfl
theorem e_99_43 : g_Pg 99 43 = ga_push (.int 1) 44 := (congrFun pg_99 43).trans rfl
theorem q_99_43 {L : List Value} {S : List Value} {Z : gZ} {I : gI} {J : gJ} : g_at 99 43 L S Z I J = g_at 99 44 L (.int 1 :: S) Z I J := gq_push e_99_43
theorem e_99_44 : g_Pg 99 44 = ga_goto 48 := (congrFun pg_99 44).trans rfl
theorem q_99_44 {L : List Value} {S : List Value} {Z : gZ} {I : gI} {J : gJ} : g_at 99 44 L S Z I J = g_at 99 48 L S Z I J := gq_goto e_99_44
theorem e_99_47 : g_Pg 99 47 = ga_push (.int 0) 48 := (congrFun pg_99 47).trans rfl
theorem q_99_47 {L : List Value} {S : List Value} {Z : gZ} {I : gI} {J : gJ} : g_at 99 47 L S Z I J = g_at 99 48 L (.int 0 :: S) Z I J := gq_push e_99_47
theorem e_99_48 : g_Pg 99 48 = ga_zret := (congrFun pg_99 48).trans rfl
theorem q_99_48 {L : List Value} {x : Int32} {Z : gZ} {I : gI} {J : gJ} (h : gB01 x = true) : g_at 99 48 L [.int x] Z I J = some (some (.int x), Z, I, J) := gq_zret e_99_48 h
theorem e_100_0 : g_Pg 100 0 = ga_aload 0 1 := (congrFun pg_100 0).trans rfl
theorem q_100_0 {l1 : Value} {x : Nat} {S : List Value} {Z : gZ} {I : gI} {J : gJ} : g_at 100 0 [.ref x, l1] S Z I J = g_at 100 1 [.ref x, l1] (.ref x :: S) Z I J := gq_aload e_100_0 rfl
theorem e_100_1 : g_Pg 100 1 = ga_getR 7 3 4 := (congrFun pg_100 1).trans rfl
theorem q_100_1 {L : List Value} {a : Nat} {S : List Value} {Z : gZ} {I : gI} {J : gJ} (h : (gKd Z a).1 = 7) (h1 : gRs Z a 3 = true) : g_at 100 1 L (.ref a :: S) Z I J = g_at 100 4 L (.ref (gRq Z a 3) :: S) Z I J := gq_getR e_100_1 h h1
theorem e_100_4 : g_Pg 100 4 = ga_iload 1 5 := (congrFun pg_100 4).trans rfl
theorem q_100_4 {l0 : Value} {x : Int32} {S : List Value} {Z : gZ} {I : gI} {J : gJ} : g_at 100 4 [l0, .int x] S Z I J = g_at 100 5 [l0, .int x] (.int x :: S) Z I J := gq_iload e_100_4 rfl
theorem e_100_5 : g_Pg 100 5 = ga_iald 6 := (congrFun pg_100 5).trans rfl
theorem q_100_5 {L : List Value} {a : Nat} {i : Int32} {S : List Value} {Z : gZ} {I : gI} {J : gJ} (h : gTg8 (gKd Z a).1 a = true) (h0 : 0 ≤ i) (h1 : i.toNatClampNeg < (gKd Z a).2) : g_at 100 5 L (.int i :: .ref a :: S) Z I J = g_at 100 6 L (.int (I a i.toNatClampNeg) :: S) Z I J := gq_iald e_100_5 h h0 h1
theorem e_100_6 : g_Pg 100 6 = ga_push (.int 2) 7 := (congrFun pg_100 6).trans rfl
theorem q_100_6 {L : List Value} {S : List Value} {Z : gZ} {I : gI} {J : gJ} : g_at 100 6 L S Z I J = g_at 100 7 L (.int 2 :: S) Z I J := gq_push e_100_6
theorem e_100_7 : g_Pg 100 7 = ga_cmp (fun x y => decide (¬ x = y)) 21 10 := (congrFun pg_100 7).trans rfl
theorem q_100_7 {L : List Value} {x y : Int32} {S : List Value} {Z : gZ} {I : gI} {J : gJ} : g_at 100 7 L (.int y :: .int x :: S) Z I J = if ¬ x = y then g_at 100 21 L S Z I J else g_at 100 10 L S Z I J := gq_cmp e_100_7 rfl
theorem e_100_10 : g_Pg 100 10 = ga_push (.int 2) 11 := (congrFun pg_100 10).trans rfl
theorem q_100_10 {L : List Value} {S : List Value} {Z : gZ} {I : gI} {J : gJ} : g_at 100 10 L S Z I J = g_at 100 11 L (.int 2 :: S) Z I J := gq_push e_100_10
theorem e_100_11 : g_Pg 100 11 = ga_aload 0 12 := (congrFun pg_100 11).trans rfl
theorem q_100_11 {l1 : Value} {x : Nat} {S : List Value} {Z : gZ} {I : gI} {J : gJ} : g_at 100 11 [.ref x, l1] S Z I J = g_at 100 12 [.ref x, l1] (.ref x :: S) Z I J := gq_aload e_100_11 rfl
theorem e_100_12 : g_Pg 100 12 = ga_getR 7 4 15 := (congrFun pg_100 12).trans rfl
theorem q_100_12 {L : List Value} {a : Nat} {S : List Value} {Z : gZ} {I : gI} {J : gJ} (h : (gKd Z a).1 = 7) (h1 : gRs Z a 4 = true) : g_at 100 12 L (.ref a :: S) Z I J = g_at 100 15 L (.ref (gRq Z a 4) :: S) Z I J := gq_getR e_100_12 h h1
theorem e_100_15 : g_Pg 100 15 = ga_iload 1 16 := (congrFun pg_100 15).trans rfl
theorem q_100_15 {l0 : Value} {x : Int32} {S : List Value} {Z : gZ} {I : gI} {J : gJ} : g_at 100 15 [l0, .int x] S Z I J = g_at 100 16 [l0, .int x] (.int x :: S) Z I J := gq_iload e_100_15 rfl
theorem e_100_16 : g_Pg 100 16 = ga_iald 17 := (congrFun pg_100 16).trans rfl
theorem q_100_16 {L : List Value} {a : Nat} {i : Int32} {S : List Value} {Z : gZ} {I : gI} {J : gJ} (h : gTg8 (gKd Z a).1 a = true) (h0 : 0 ≤ i) (h1 : i.toNatClampNeg < (gKd Z a).2) : g_at 100 16 L (.int i :: .ref a :: S) Z I J = g_at 100 17 L (.int (I a i.toNatClampNeg) :: S) Z I J := gq_iald e_100_16 h h0 h1
theorem e_100_17 : g_Pg 100 17 = ga_bin (fun x y => x * y) 18 := (congrFun pg_100 17).trans rfl
theorem q_100_17 {L : List Value} {x y : Int32} {S : List Value} {Z : gZ} {I : gI} {J : gJ} : g_at 100 17 L (.int y :: .int x :: S) Z I J = g_at 100 18 L (.int (x * y) :: S) Z I J := gq_bin e_100_17
theorem e_100_18 : g_Pg 100 18 = ga_goto 27 := (congrFun pg_100 18).trans rfl
theorem q_100_18 {L : List Value} {S : List Value} {Z : gZ} {I : gI} {J : gJ} : g_at 100 18 L S Z I J = g_at 100 27 L S Z I J := gq_goto e_100_18
theorem e_100_21 : g_Pg 100 21 = ga_aload 0 22 := (congrFun pg_100 21).trans rfl
theorem q_100_21 {l1 : Value} {x : Nat} {S : List Value} {Z : gZ} {I : gI} {J : gJ} : g_at 100 21 [.ref x, l1] S Z I J = g_at 100 22 [.ref x, l1] (.ref x :: S) Z I J := gq_aload e_100_21 rfl
theorem e_100_22 : g_Pg 100 22 = ga_getR 7 4 25 := (congrFun pg_100 22).trans rfl
theorem q_100_22 {L : List Value} {a : Nat} {S : List Value} {Z : gZ} {I : gI} {J : gJ} (h : (gKd Z a).1 = 7) (h1 : gRs Z a 4 = true) : g_at 100 22 L (.ref a :: S) Z I J = g_at 100 25 L (.ref (gRq Z a 4) :: S) Z I J := gq_getR e_100_22 h h1
theorem e_100_25 : g_Pg 100 25 = ga_iload 1 26 := (congrFun pg_100 25).trans rfl
theorem q_100_25 {l0 : Value} {x : Int32} {S : List Value} {Z : gZ} {I : gI} {J : gJ} : g_at 100 25 [l0, .int x] S Z I J = g_at 100 26 [l0, .int x] (.int x :: S) Z I J := gq_iload e_100_25 rfl
theorem e_100_26 : g_Pg 100 26 = ga_iald 27 := (congrFun pg_100 26).trans rfl
theorem q_100_26 {L : List Value} {a : Nat} {i : Int32} {S : List Value} {Z : gZ} {I : gI} {J : gJ} (h : gTg8 (gKd Z a).1 a = true) (h0 : 0 ≤ i) (h1 : i.toNatClampNeg < (gKd Z a).2) : g_at 100 26 L (.int i :: .ref a :: S) Z I J = g_at 100 27 L (.int (I a i.toNatClampNeg) :: S) Z I J := gq_iald e_100_26 h h0 h1
theorem e_100_27 : g_Pg 100 27 = ga_aload 0 28 := (congrFun pg_100 27).trans rfl
theorem q_100_27 {l1 : Value} {x : Nat} {S : List Value} {Z : gZ} {I : gI} {J : gJ} : g_at 100 27 [.ref x, l1] S Z I J = g_at 100 28 [.ref x, l1] (.ref x :: S) Z I J := gq_aload e_100_27 rfl
theorem e_100_28 : g_Pg 100 28 = ga_getI 7 5 31 := (congrFun pg_100 28).trans rfl
theorem q_100_28 {L : List Value} {a : Nat} {S : List Value} {Z : gZ} {I : gI} {J : gJ} (h : (gKd Z a).1 = 7) : g_at 100 28 L (.ref a :: S) Z I J = g_at 100 31 L (.int (I a 5) :: S) Z I J := gq_getI e_100_28 h
theorem e_100_31 : g_Pg 100 31 = ga_push (.int 2) 32 := (congrFun pg_100 31).trans rfl
theorem q_100_31 {L : List Value} {S : List Value} {Z : gZ} {I : gI} {J : gJ} : g_at 100 31 L S Z I J = g_at 100 32 L (.int 2 :: S) Z I J := gq_push e_100_31
theorem e_100_32 : g_Pg 100 32 = ga_cmp (fun x y => decide (¬ x = y)) 39 35 := (congrFun pg_100 32).trans rfl
theorem q_100_32 {L : List Value} {x y : Int32} {S : List Value} {Z : gZ} {I : gI} {J : gJ} : g_at 100 32 L (.int y :: .int x :: S) Z I J = if ¬ x = y then g_at 100 39 L S Z I J else g_at 100 35 L S Z I J := gq_cmp e_100_32 rfl
theorem e_100_35 : g_Pg 100 35 = ga_push (.int 1) 36 := (congrFun pg_100 35).trans rfl
theorem q_100_35 {L : List Value} {S : List Value} {Z : gZ} {I : gI} {J : gJ} : g_at 100 35 L S Z I J = g_at 100 36 L (.int 1 :: S) Z I J := gq_push e_100_35
theorem e_100_36 : g_Pg 100 36 = ga_goto 40 := (congrFun pg_100 36).trans rfl
theorem q_100_36 {L : List Value} {S : List Value} {Z : gZ} {I : gI} {J : gJ} : g_at 100 36 L S Z I J = g_at 100 40 L S Z I J := gq_goto e_100_36
theorem e_100_39 : g_Pg 100 39 = ga_push (.int 0) 40 := (congrFun pg_100 39).trans rfl
theorem q_100_39 {L : List Value} {S : List Value} {Z : gZ} {I : gI} {J : gJ} : g_at 100 39 L S Z I J = g_at 100 40 L (.int 0 :: S) Z I J := gq_push e_100_39
theorem e_100_40 : g_Pg 100 40 = ga_bin (fun x y => x + y) 41 := (congrFun pg_100 40).trans rfl
theorem q_100_40 {L : List Value} {x y : Int32} {S : List Value} {Z : gZ} {I : gI} {J : gJ} : g_at 100 40 L (.int y :: .int x :: S) Z I J = g_at 100 41 L (.int (x + y) :: S) Z I J := gq_bin e_100_40
theorem e_100_41 : g_Pg 100 41 = ga_iret := (congrFun pg_100 41).trans rfl
theorem q_100_41 {L : List Value} {x : Int32} {Z : gZ} {I : gI} {J : gJ} : g_at 100 41 L [.int x] Z I J = some (some (.int x), Z, I, J) := gq_iret e_100_41
theorem e_101_0 : g_Pg 101 0 = ga_aload 0 1 := (congrFun pg_101 0).trans rfl
theorem q_101_0 {l1 l2 l3 l4 : Value} {x : Nat} {S : List Value} {Z : gZ} {I : gI} {J : gJ} : g_at 101 0 [.ref x, l1, l2, l3, l4] S Z I J = g_at 101 1 [.ref x, l1, l2, l3, l4] (.ref x :: S) Z I J := gq_aload e_101_0 rfl
theorem e_101_1 : g_Pg 101 1 = ga_iload 1 2 := (congrFun pg_101 1).trans rfl
theorem q_101_1 {l0 l2 l3 l4 : Value} {x : Int32} {S : List Value} {Z : gZ} {I : gI} {J : gJ} : g_at 101 1 [l0, .int x, l2, l3, l4] S Z I J = g_at 101 2 [l0, .int x, l2, l3, l4] (.int x :: S) Z I J := gq_iload e_101_1 rfl
theorem e_101_2 : g_Pg 101 2 = ga_callV 7 85 1 5 := (congrFun pg_101 2).trans rfl
theorem q_101_2 {L : List Value} {a0 : Int32} {a1 : Nat} {Z : gZ} {I : gI} {J : gJ} (h : (gKd Z a1).1 = 7) : g_at 101 2 L [.int a0, .ref a1] Z I J = (g_at 85 0 [.ref a1, .int a0] [] Z I J).bind (fun r => g_at 101 5 L (r.1.toList ++ []) r.2.1 r.2.2.1 r.2.2.2) := gq_callV e_101_2 rfl rfl h rfl rfl rfl rfl rfl
theorem e_101_5 : g_Pg 101 5 = ga_if (fun x => decide (¬ x = 0)) 11 8 := (congrFun pg_101 5).trans rfl
theorem q_101_5 {L : List Value} {x : Int32} {S : List Value} {Z : gZ} {I : gI} {J : gJ} : g_at 101 5 L (.int x :: S) Z I J = if ¬ x = 0 then g_at 101 11 L S Z I J else g_at 101 8 L S Z I J := gq_if e_101_5 rfl
theorem e_101_8 : g_Pg 101 8 = ga_push (.int (-2)) 10 := (congrFun pg_101 8).trans rfl
theorem q_101_8 {L : List Value} {S : List Value} {Z : gZ} {I : gI} {J : gJ} : g_at 101 8 L S Z I J = g_at 101 10 L (.int (-2) :: S) Z I J := gq_push e_101_8
theorem e_101_10 : g_Pg 101 10 = ga_iret := (congrFun pg_101 10).trans rfl
theorem q_101_10 {L : List Value} {x : Int32} {Z : gZ} {I : gI} {J : gJ} : g_at 101 10 L [.int x] Z I J = some (some (.int x), Z, I, J) := gq_iret e_101_10
theorem e_101_11 : g_Pg 101 11 = ga_push (.int (-1)) 12 := (congrFun pg_101 11).trans rfl
theorem q_101_11 {L : List Value} {S : List Value} {Z : gZ} {I : gI} {J : gJ} : g_at 101 11 L S Z I J = g_at 101 12 L (.int (-1) :: S) Z I J := gq_push e_101_11
theorem e_101_12 : g_Pg 101 12 = ga_istore 3 13 := (congrFun pg_101 12).trans rfl
theorem q_101_12 {l0 l1 l2 l3 l4 : Value} {x : Int32} {S : List Value} {Z : gZ} {I : gI} {J : gJ} (h : gN1 l2 = true) : g_at 101 12 [l0, l1, l2, l3, l4] (.int x :: S) Z I J = g_at 101 13 [l0, l1, l2, .int x, l4] S Z I J := gq_istore e_101_12 h rfl rfl
theorem e_101_13 : g_Pg 101 13 = ga_push (.int 50) 15 := (congrFun pg_101 13).trans rfl
theorem q_101_13 {L : List Value} {S : List Value} {Z : gZ} {I : gI} {J : gJ} : g_at 101 13 L S Z I J = g_at 101 15 L (.int 50 :: S) Z I J := gq_push e_101_13
theorem e_101_15 : g_Pg 101 15 = ga_istore 4 17 := (congrFun pg_101 15).trans rfl
theorem q_101_15 {l0 l1 l2 l3 l4 : Value} {x : Int32} {S : List Value} {Z : gZ} {I : gI} {J : gJ} (h : gN1 l3 = true) : g_at 101 15 [l0, l1, l2, l3, l4] (.int x :: S) Z I J = g_at 101 17 [l0, l1, l2, l3, .int x] S Z I J := gq_istore e_101_15 h rfl rfl
theorem e_101_17 : g_Pg 101 17 = ga_iload 4 19 := (congrFun pg_101 17).trans rfl
theorem q_101_17 {l0 l1 l2 l3 : Value} {x : Int32} {S : List Value} {Z : gZ} {I : gI} {J : gJ} : g_at 101 17 [l0, l1, l2, l3, .int x] S Z I J = g_at 101 19 [l0, l1, l2, l3, .int x] (.int x :: S) Z I J := gq_iload e_101_17 rfl
theorem e_101_19 : g_Pg 101 19 = ga_if (fun x => decide (x ≤ 0)) 51 22 := (congrFun pg_101 19).trans rfl
theorem q_101_19 {L : List Value} {x : Int32} {S : List Value} {Z : gZ} {I : gI} {J : gJ} : g_at 101 19 L (.int x :: S) Z I J = if x ≤ 0 then g_at 101 51 L S Z I J else g_at 101 22 L S Z I J := gq_if e_101_19 rfl
theorem e_101_22 : g_Pg 101 22 = ga_aload 0 23 := (congrFun pg_101 22).trans rfl
theorem q_101_22 {l1 l2 l3 l4 : Value} {x : Nat} {S : List Value} {Z : gZ} {I : gI} {J : gJ} : g_at 101 22 [.ref x, l1, l2, l3, l4] S Z I J = g_at 101 23 [.ref x, l1, l2, l3, l4] (.ref x :: S) Z I J := gq_aload e_101_22 rfl
theorem e_101_23 : g_Pg 101 23 = ga_getR 7 18 26 := (congrFun pg_101 23).trans rfl
theorem q_101_23 {L : List Value} {a : Nat} {S : List Value} {Z : gZ} {I : gI} {J : gJ} (h : (gKd Z a).1 = 7) (h1 : gRs Z a 18 = true) : g_at 101 23 L (.ref a :: S) Z I J = g_at 101 26 L (.ref (gRq Z a 18) :: S) Z I J := gq_getR e_101_23 h h1
theorem e_101_26 : g_Pg 101 26 = ga_iload 1 27 := (congrFun pg_101 26).trans rfl
theorem q_101_26 {l0 l2 l3 l4 : Value} {x : Int32} {S : List Value} {Z : gZ} {I : gI} {J : gJ} : g_at 101 26 [l0, .int x, l2, l3, l4] S Z I J = g_at 101 27 [l0, .int x, l2, l3, l4] (.int x :: S) Z I J := gq_iload e_101_26 rfl
theorem e_101_27 : g_Pg 101 27 = ga_lald 28 := (congrFun pg_101 27).trans rfl
theorem q_101_27 {L : List Value} {a : Nat} {i : Int32} {S : List Value} {Z : gZ} {I : gI} {J : gJ} (h : (gKd Z a).1 = 10) (h0 : 0 ≤ i) (h1 : i.toNatClampNeg < (gKd Z a).2) : g_at 101 27 L (.int i :: .ref a :: S) Z I J = g_at 101 28 L (.long (J a i.toNatClampNeg) :: S) Z I J := gq_lald e_101_27 h h0 h1
theorem e_101_28 : g_Pg 101 28 = ga_iload 4 30 := (congrFun pg_101 28).trans rfl
theorem q_101_28 {l0 l1 l2 l3 : Value} {x : Int32} {S : List Value} {Z : gZ} {I : gI} {J : gJ} : g_at 101 28 [l0, l1, l2, l3, .int x] S Z I J = g_at 101 30 [l0, l1, l2, l3, .int x] (.int x :: S) Z I J := gq_iload e_101_28 rfl
theorem e_101_30 : g_Pg 101 30 = ga_lsh (fun x y => x >>> (y.toInt64 &&& 63)) 31 := (congrFun pg_101 30).trans rfl
theorem q_101_30 {L : List Value} {x : Int64} {y : Int32} {S : List Value} {Z : gZ} {I : gI} {J : gJ} : g_at 101 30 L (.int y :: .long x :: S) Z I J = g_at 101 31 L (.long (x >>> (y.toInt64 &&& 63)) :: S) Z I J := gq_lsh e_101_30
theorem e_101_31 : g_Pg 101 31 = ga_push (.long 1) 32 := (congrFun pg_101 31).trans rfl
theorem q_101_31 {L : List Value} {S : List Value} {Z : gZ} {I : gI} {J : gJ} : g_at 101 31 L S Z I J = g_at 101 32 L (.long 1 :: S) Z I J := gq_push e_101_31
theorem e_101_32 : g_Pg 101 32 = ga_lbin (fun x y => x &&& y) 33 := (congrFun pg_101 32).trans rfl
theorem q_101_32 {L : List Value} {x y : Int64} {S : List Value} {Z : gZ} {I : gI} {J : gJ} : g_at 101 32 L (.long y :: .long x :: S) Z I J = g_at 101 33 L (.long (x &&& y) :: S) Z I J := gq_lbin e_101_32
theorem e_101_33 : g_Pg 101 33 = ga_push (.long 1) 34 := (congrFun pg_101 33).trans rfl
theorem q_101_33 {L : List Value} {S : List Value} {Z : gZ} {I : gI} {J : gJ} : g_at 101 33 L S Z I J = g_at 101 34 L (.long 1 :: S) Z I J := gq_push e_101_33
theorem e_101_34 : g_Pg 101 34 = ga_lcmp 35 := (congrFun pg_101 34).trans rfl
theorem q_101_34 {L : List Value} {x y : Int64} {S : List Value} {Z : gZ} {I : gI} {J : gJ} : g_at 101 34 L (.long y :: .long x :: S) Z I J = g_at 101 35 L (.int (lg_cmp x y) :: S) Z I J := gq_lcmp e_101_34
theorem e_101_35 : g_Pg 101 35 = ga_if (fun x => decide (¬ x = 0)) 43 38 := (congrFun pg_101 35).trans rfl
theorem q_101_35 {L : List Value} {x : Int32} {S : List Value} {Z : gZ} {I : gI} {J : gJ} : g_at 101 35 L (.int x :: S) Z I J = if ¬ x = 0 then g_at 101 43 L S Z I J else g_at 101 38 L S Z I J := gq_if e_101_35 rfl
theorem e_101_38 : g_Pg 101 38 = ga_iload 4 40 := (congrFun pg_101 38).trans rfl
theorem q_101_38 {l0 l1 l2 l3 : Value} {x : Int32} {S : List Value} {Z : gZ} {I : gI} {J : gJ} : g_at 101 38 [l0, l1, l2, l3, .int x] S Z I J = g_at 101 40 [l0, l1, l2, l3, .int x] (.int x :: S) Z I J := gq_iload e_101_38 rfl
theorem e_101_40 : g_Pg 101 40 = ga_goto 44 := (congrFun pg_101 40).trans rfl
theorem q_101_40 {L : List Value} {S : List Value} {Z : gZ} {I : gI} {J : gJ} : g_at 101 40 L S Z I J = g_at 101 44 L S Z I J := gq_goto e_101_40
theorem e_101_43 : g_Pg 101 43 = ga_iload 3 44 := (congrFun pg_101 43).trans rfl
theorem q_101_43 {l0 l1 l2 l4 : Value} {x : Int32} {S : List Value} {Z : gZ} {I : gI} {J : gJ} : g_at 101 43 [l0, l1, l2, .int x, l4] S Z I J = g_at 101 44 [l0, l1, l2, .int x, l4] (.int x :: S) Z I J := gq_iload e_101_43 rfl
theorem e_101_44 : g_Pg 101 44 = ga_istore 3 45 := (congrFun pg_101 44).trans rfl
theorem q_101_44 {l0 l1 l2 l3 l4 : Value} {x : Int32} {S : List Value} {Z : gZ} {I : gI} {J : gJ} (h : gN1 l2 = true) : g_at 101 44 [l0, l1, l2, l3, l4] (.int x :: S) Z I J = g_at 101 45 [l0, l1, l2, .int x, l4] S Z I J := gq_istore e_101_44 h rfl rfl
theorem e_101_45 : g_Pg 101 45 = ga_iinc 4 (-1) 48 := (congrFun pg_101 45).trans rfl
theorem q_101_45 {l0 l1 l2 l3 : Value} {x : Int32} {S : List Value} {Z : gZ} {I : gI} {J : gJ} (h : gN1 l3 = true) : g_at 101 45 [l0, l1, l2, l3, .int x] S Z I J = g_at 101 48 [l0, l1, l2, l3, .int (x + (-1))] S Z I J := gq_iinc e_101_45 rfl h rfl
theorem e_101_48 : g_Pg 101 48 = ga_goto 17 := (congrFun pg_101 48).trans rfl
theorem q_101_48 {L : List Value} {S : List Value} {Z : gZ} {I : gI} {J : gJ} : g_at 101 48 L S Z I J = g_at 101 17 L S Z I J := gq_goto e_101_48
theorem e_101_51 : g_Pg 101 51 = ga_iload 2 52 := (congrFun pg_101 51).trans rfl
theorem q_101_51 {l0 l1 l3 l4 : Value} {x : Int32} {S : List Value} {Z : gZ} {I : gI} {J : gJ} : g_at 101 51 [l0, l1, .int x, l3, l4] S Z I J = g_at 101 52 [l0, l1, .int x, l3, l4] (.int x :: S) Z I J := gq_iload e_101_51 rfl
theorem e_101_52 : g_Pg 101 52 = ga_switch 0 [88, 95, 102, 116, 123] 125 := (congrFun pg_101 52).trans rfl
theorem q_101_52 {L : List Value} {x : Int32} {S : List Value} {Z : gZ} {I : gI} {J : gJ} : g_at 101 52 L (.int x :: S) Z I J = if x = 0 then g_at 101 88 L S Z I J else if x = 1 then g_at 101 95 L S Z I J else if x = 2 then g_at 101 102 L S Z I J else if x = 3 then g_at 101 116 L S Z I J else if x = 4 then g_at 101 123 L S Z I J else g_at 101 125 L S Z I J := (gq_switch e_101_52).trans (gsw_cons (F := fun q => g_at 101 q L S Z I J) (lo := 0) (lo' := 1) (v := 0) rfl rfl (gsw_cons (F := fun q => g_at 101 q L S Z I J) (lo := 1) (lo' := 2) (v := 1) rfl rfl (gsw_cons (F := fun q => g_at 101 q L S Z I J) (lo := 2) (lo' := 3) (v := 2) rfl rfl (gsw_cons (F := fun q => g_at 101 q L S Z I J) (lo := 3) (lo' := 4) (v := 3) rfl rfl (gsw_cons (F := fun q => g_at 101 q L S Z I J) (lo := 4) (lo' := 5) (v := 4) rfl rfl rfl)))))
theorem e_101_88 : g_Pg 101 88 = ga_aload 0 89 := (congrFun pg_101 88).trans rfl
theorem q_101_88 {l1 l2 l3 l4 : Value} {x : Nat} {S : List Value} {Z : gZ} {I : gI} {J : gJ} : g_at 101 88 [.ref x, l1, l2, l3, l4] S Z I J = g_at 101 89 [.ref x, l1, l2, l3, l4] (.ref x :: S) Z I J := gq_aload e_101_88 rfl
theorem e_101_89 : g_Pg 101 89 = ga_getR 7 1 92 := (congrFun pg_101 89).trans rfl
theorem q_101_89 {L : List Value} {a : Nat} {S : List Value} {Z : gZ} {I : gI} {J : gJ} (h : (gKd Z a).1 = 7) (h1 : gRs Z a 1 = true) : g_at 101 89 L (.ref a :: S) Z I J = g_at 101 92 L (.ref (gRq Z a 1) :: S) Z I J := gq_getR e_101_89 h h1
theorem e_101_92 : g_Pg 101 92 = ga_iload 1 93 := (congrFun pg_101 92).trans rfl
theorem q_101_92 {l0 l2 l3 l4 : Value} {x : Int32} {S : List Value} {Z : gZ} {I : gI} {J : gJ} : g_at 101 92 [l0, .int x, l2, l3, l4] S Z I J = g_at 101 93 [l0, .int x, l2, l3, l4] (.int x :: S) Z I J := gq_iload e_101_92 rfl
theorem e_101_93 : g_Pg 101 93 = ga_iald 94 := (congrFun pg_101 93).trans rfl
theorem q_101_93 {L : List Value} {a : Nat} {i : Int32} {S : List Value} {Z : gZ} {I : gI} {J : gJ} (h : gTg8 (gKd Z a).1 a = true) (h0 : 0 ≤ i) (h1 : i.toNatClampNeg < (gKd Z a).2) : g_at 101 93 L (.int i :: .ref a :: S) Z I J = g_at 101 94 L (.int (I a i.toNatClampNeg) :: S) Z I J := gq_iald e_101_93 h h0 h1
theorem e_101_94 : g_Pg 101 94 = ga_iret := (congrFun pg_101 94).trans rfl
theorem q_101_94 {L : List Value} {x : Int32} {Z : gZ} {I : gI} {J : gJ} : g_at 101 94 L [.int x] Z I J = some (some (.int x), Z, I, J) := gq_iret e_101_94
theorem e_101_95 : g_Pg 101 95 = ga_aload 0 96 := (congrFun pg_101 95).trans rfl
theorem q_101_95 {l1 l2 l3 l4 : Value} {x : Nat} {S : List Value} {Z : gZ} {I : gI} {J : gJ} : g_at 101 95 [.ref x, l1, l2, l3, l4] S Z I J = g_at 101 96 [.ref x, l1, l2, l3, l4] (.ref x :: S) Z I J := gq_aload e_101_95 rfl
theorem e_101_96 : g_Pg 101 96 = ga_getR 7 2 99 := (congrFun pg_101 96).trans rfl
theorem q_101_96 {L : List Value} {a : Nat} {S : List Value} {Z : gZ} {I : gI} {J : gJ} (h : (gKd Z a).1 = 7) (h1 : gRs Z a 2 = true) : g_at 101 96 L (.ref a :: S) Z I J = g_at 101 99 L (.ref (gRq Z a 2) :: S) Z I J := gq_getR e_101_96 h h1
theorem e_101_99 : g_Pg 101 99 = ga_iload 1 100 := (congrFun pg_101 99).trans rfl
theorem q_101_99 {l0 l2 l3 l4 : Value} {x : Int32} {S : List Value} {Z : gZ} {I : gI} {J : gJ} : g_at 101 99 [l0, .int x, l2, l3, l4] S Z I J = g_at 101 100 [l0, .int x, l2, l3, l4] (.int x :: S) Z I J := gq_iload e_101_99 rfl
theorem e_101_100 : g_Pg 101 100 = ga_iald 101 := (congrFun pg_101 100).trans rfl
theorem q_101_100 {L : List Value} {a : Nat} {i : Int32} {S : List Value} {Z : gZ} {I : gI} {J : gJ} (h : gTg8 (gKd Z a).1 a = true) (h0 : 0 ≤ i) (h1 : i.toNatClampNeg < (gKd Z a).2) : g_at 101 100 L (.int i :: .ref a :: S) Z I J = g_at 101 101 L (.int (I a i.toNatClampNeg) :: S) Z I J := gq_iald e_101_100 h h0 h1
theorem e_101_101 : g_Pg 101 101 = ga_iret := (congrFun pg_101 101).trans rfl
theorem q_101_101 {L : List Value} {x : Int32} {Z : gZ} {I : gI} {J : gJ} : g_at 101 101 L [.int x] Z I J = some (some (.int x), Z, I, J) := gq_iret e_101_101
theorem e_101_102 : g_Pg 101 102 = ga_aload 0 103 := (congrFun pg_101 102).trans rfl
theorem q_101_102 {l1 l2 l3 l4 : Value} {x : Nat} {S : List Value} {Z : gZ} {I : gI} {J : gJ} : g_at 101 102 [.ref x, l1, l2, l3, l4] S Z I J = g_at 101 103 [.ref x, l1, l2, l3, l4] (.ref x :: S) Z I J := gq_aload e_101_102 rfl
theorem e_101_103 : g_Pg 101 103 = ga_iload 1 104 := (congrFun pg_101 103).trans rfl
theorem q_101_103 {l0 l2 l3 l4 : Value} {x : Int32} {S : List Value} {Z : gZ} {I : gI} {J : gJ} : g_at 101 103 [l0, .int x, l2, l3, l4] S Z I J = g_at 101 104 [l0, .int x, l2, l3, l4] (.int x :: S) Z I J := gq_iload e_101_103 rfl
theorem e_101_104 : g_Pg 101 104 = ga_callV 7 99 1 107 := (congrFun pg_101 104).trans rfl
theorem q_101_104 {L : List Value} {a0 : Int32} {a1 : Nat} {Z : gZ} {I : gI} {J : gJ} (h : (gKd Z a1).1 = 7) : g_at 101 104 L [.int a0, .ref a1] Z I J = (g_at 99 0 [.ref a1, .int a0] [] Z I J).bind (fun r => g_at 101 107 L (r.1.toList ++ []) r.2.1 r.2.2.1 r.2.2.2) := gq_callV e_101_104 rfl rfl h rfl rfl rfl rfl rfl
theorem e_101_107 : g_Pg 101 107 = ga_if (fun x => decide (x = 0)) 114 110 := (congrFun pg_101 107).trans rfl
theorem q_101_107 {L : List Value} {x : Int32} {S : List Value} {Z : gZ} {I : gI} {J : gJ} : g_at 101 107 L (.int x :: S) Z I J = if x = 0 then g_at 101 114 L S Z I J else g_at 101 110 L S Z I J := gq_if e_101_107 rfl
theorem e_101_110 : g_Pg 101 110 = ga_push (.int 1) 111 := (congrFun pg_101 110).trans rfl
theorem q_101_110 {L : List Value} {S : List Value} {Z : gZ} {I : gI} {J : gJ} : g_at 101 110 L S Z I J = g_at 101 111 L (.int 1 :: S) Z I J := gq_push e_101_110
theorem e_101_111 : g_Pg 101 111 = ga_goto 115 := (congrFun pg_101 111).trans rfl
theorem q_101_111 {L : List Value} {S : List Value} {Z : gZ} {I : gI} {J : gJ} : g_at 101 111 L S Z I J = g_at 101 115 L S Z I J := gq_goto e_101_111
theorem e_101_114 : g_Pg 101 114 = ga_push (.int 0) 115 := (congrFun pg_101 114).trans rfl
theorem q_101_114 {L : List Value} {S : List Value} {Z : gZ} {I : gI} {J : gJ} : g_at 101 114 L S Z I J = g_at 101 115 L (.int 0 :: S) Z I J := gq_push e_101_114
theorem e_101_115 : g_Pg 101 115 = ga_iret := (congrFun pg_101 115).trans rfl
theorem q_101_115 {L : List Value} {x : Int32} {Z : gZ} {I : gI} {J : gJ} : g_at 101 115 L [.int x] Z I J = some (some (.int x), Z, I, J) := gq_iret e_101_115
theorem e_101_116 : g_Pg 101 116 = ga_aload 0 117 := (congrFun pg_101 116).trans rfl
theorem q_101_116 {l1 l2 l3 l4 : Value} {x : Nat} {S : List Value} {Z : gZ} {I : gI} {J : gJ} : g_at 101 116 [.ref x, l1, l2, l3, l4] S Z I J = g_at 101 117 [.ref x, l1, l2, l3, l4] (.ref x :: S) Z I J := gq_aload e_101_116 rfl
theorem e_101_117 : g_Pg 101 117 = ga_getR 7 19 120 := (congrFun pg_101 117).trans rfl
theorem q_101_117 {L : List Value} {a : Nat} {S : List Value} {Z : gZ} {I : gI} {J : gJ} (h : (gKd Z a).1 = 7) (h1 : gRs Z a 19 = true) : g_at 101 117 L (.ref a :: S) Z I J = g_at 101 120 L (.ref (gRq Z a 19) :: S) Z I J := gq_getR e_101_117 h h1
theorem e_101_120 : g_Pg 101 120 = ga_iload 1 121 := (congrFun pg_101 120).trans rfl
theorem q_101_120 {l0 l2 l3 l4 : Value} {x : Int32} {S : List Value} {Z : gZ} {I : gI} {J : gJ} : g_at 101 120 [l0, .int x, l2, l3, l4] S Z I J = g_at 101 121 [l0, .int x, l2, l3, l4] (.int x :: S) Z I J := gq_iload e_101_120 rfl
theorem e_101_121 : g_Pg 101 121 = ga_iald 122 := (congrFun pg_101 121).trans rfl
theorem q_101_121 {L : List Value} {a : Nat} {i : Int32} {S : List Value} {Z : gZ} {I : gI} {J : gJ} (h : gTg8 (gKd Z a).1 a = true) (h0 : 0 ≤ i) (h1 : i.toNatClampNeg < (gKd Z a).2) : g_at 101 121 L (.int i :: .ref a :: S) Z I J = g_at 101 122 L (.int (I a i.toNatClampNeg) :: S) Z I J := gq_iald e_101_121 h h0 h1
theorem e_101_122 : g_Pg 101 122 = ga_iret := (congrFun pg_101 122).trans rfl
theorem q_101_122 {L : List Value} {x : Int32} {Z : gZ} {I : gI} {J : gJ} : g_at 101 122 L [.int x] Z I J = some (some (.int x), Z, I, J) := gq_iret e_101_122
theorem e_101_123 : g_Pg 101 123 = ga_iload 3 124 := (congrFun pg_101 123).trans rfl
theorem q_101_123 {l0 l1 l2 l4 : Value} {x : Int32} {S : List Value} {Z : gZ} {I : gI} {J : gJ} : g_at 101 123 [l0, l1, l2, .int x, l4] S Z I J = g_at 101 124 [l0, l1, l2, .int x, l4] (.int x :: S) Z I J := gq_iload e_101_123 rfl
theorem e_101_124 : g_Pg 101 124 = ga_iret := (congrFun pg_101 124).trans rfl
theorem q_101_124 {L : List Value} {x : Int32} {Z : gZ} {I : gI} {J : gJ} : g_at 101 124 L [.int x] Z I J = some (some (.int x), Z, I, J) := gq_iret e_101_124
theorem e_101_125 : g_Pg 101 125 = ga_push (.int (-3)) 127 := (congrFun pg_101 125).trans rfl
theorem q_101_125 {L : List Value} {S : List Value} {Z : gZ} {I : gI} {J : gJ} : g_at 101 125 L S Z I J = g_at 101 127 L (.int (-3) :: S) Z I J := gq_push e_101_125
theorem e_101_127 : g_Pg 101 127 = ga_iret := (congrFun pg_101 127).trans rfl
theorem q_101_127 {L : List Value} {x : Int32} {Z : gZ} {I : gI} {J : gJ} : g_at 101 127 L [.int x] Z I J = some (some (.int x), Z, I, J) := gq_iret e_101_127
theorem e_102_0 : g_Pg 102 0 = ga_aload 0 1 := (congrFun pg_102 0).trans rfl
theorem q_102_0 {l1 l2 : Value} {x : Nat} {S : List Value} {Z : gZ} {I : gI} {J : gJ} : g_at 102 0 [.ref x, l1, l2] S Z I J = g_at 102 1 [.ref x, l1, l2] (.ref x :: S) Z I J := gq_aload e_102_0 rfl
theorem e_102_1 : g_Pg 102 1 = ga_iload 1 2 := (congrFun pg_102 1).trans rfl
theorem q_102_1 {l0 l2 : Value} {x : Int32} {S : List Value} {Z : gZ} {I : gI} {J : gJ} : g_at 102 1 [l0, .int x, l2] S Z I J = g_at 102 2 [l0, .int x, l2] (.int x :: S) Z I J := gq_iload e_102_1 rfl
theorem e_102_2 : g_Pg 102 2 = ga_callV 7 85 1 5 := (congrFun pg_102 2).trans rfl
theorem q_102_2 {L : List Value} {a0 : Int32} {a1 : Nat} {Z : gZ} {I : gI} {J : gJ} (h : (gKd Z a1).1 = 7) : g_at 102 2 L [.int a0, .ref a1] Z I J = (g_at 85 0 [.ref a1, .int a0] [] Z I J).bind (fun r => g_at 102 5 L (r.1.toList ++ []) r.2.1 r.2.2.1 r.2.2.2) := gq_callV e_102_2 rfl rfl h rfl rfl rfl rfl rfl
theorem e_102_5 : g_Pg 102 5 = ga_if (fun x => decide (¬ x = 0)) 11 8 := (congrFun pg_102 5).trans rfl
theorem q_102_5 {L : List Value} {x : Int32} {S : List Value} {Z : gZ} {I : gI} {J : gJ} : g_at 102 5 L (.int x :: S) Z I J = if ¬ x = 0 then g_at 102 11 L S Z I J else g_at 102 8 L S Z I J := gq_if e_102_5 rfl
theorem e_102_8 : g_Pg 102 8 = ga_push (.int (-2)) 10 := (congrFun pg_102 8).trans rfl
theorem q_102_8 {L : List Value} {S : List Value} {Z : gZ} {I : gI} {J : gJ} : g_at 102 8 L S Z I J = g_at 102 10 L (.int (-2) :: S) Z I J := gq_push e_102_8
theorem e_102_10 : g_Pg 102 10 = ga_iret := (congrFun pg_102 10).trans rfl
theorem q_102_10 {L : List Value} {x : Int32} {Z : gZ} {I : gI} {J : gJ} : g_at 102 10 L [.int x] Z I J = some (some (.int x), Z, I, J) := gq_iret e_102_10
theorem e_102_11 : g_Pg 102 11 = ga_iload 2 12 := (congrFun pg_102 11).trans rfl
theorem q_102_11 {l0 l1 : Value} {x : Int32} {S : List Value} {Z : gZ} {I : gI} {J : gJ} : g_at 102 11 [l0, l1, .int x] S Z I J = g_at 102 12 [l0, l1, .int x] (.int x :: S) Z I J := gq_iload e_102_11 rfl
theorem e_102_12 : g_Pg 102 12 = ga_switch 0 [44, 51, 58, 64] 73 := (congrFun pg_102 12).trans rfl
theorem q_102_12 {L : List Value} {x : Int32} {S : List Value} {Z : gZ} {I : gI} {J : gJ} : g_at 102 12 L (.int x :: S) Z I J = if x = 0 then g_at 102 44 L S Z I J else if x = 1 then g_at 102 51 L S Z I J else if x = 2 then g_at 102 58 L S Z I J else if x = 3 then g_at 102 64 L S Z I J else g_at 102 73 L S Z I J := (gq_switch e_102_12).trans (gsw_cons (F := fun q => g_at 102 q L S Z I J) (lo := 0) (lo' := 1) (v := 0) rfl rfl (gsw_cons (F := fun q => g_at 102 q L S Z I J) (lo := 1) (lo' := 2) (v := 1) rfl rfl (gsw_cons (F := fun q => g_at 102 q L S Z I J) (lo := 2) (lo' := 3) (v := 2) rfl rfl (gsw_cons (F := fun q => g_at 102 q L S Z I J) (lo := 3) (lo' := 4) (v := 3) rfl rfl rfl))))
theorem e_102_44 : g_Pg 102 44 = ga_aload 0 45 := (congrFun pg_102 44).trans rfl
theorem q_102_44 {l1 l2 : Value} {x : Nat} {S : List Value} {Z : gZ} {I : gI} {J : gJ} : g_at 102 44 [.ref x, l1, l2] S Z I J = g_at 102 45 [.ref x, l1, l2] (.ref x :: S) Z I J := gq_aload e_102_44 rfl
theorem e_102_45 : g_Pg 102 45 = ga_getR 7 3 48 := (congrFun pg_102 45).trans rfl
theorem q_102_45 {L : List Value} {a : Nat} {S : List Value} {Z : gZ} {I : gI} {J : gJ} (h : (gKd Z a).1 = 7) (h1 : gRs Z a 3 = true) : g_at 102 45 L (.ref a :: S) Z I J = g_at 102 48 L (.ref (gRq Z a 3) :: S) Z I J := gq_getR e_102_45 h h1
theorem e_102_48 : g_Pg 102 48 = ga_iload 1 49 := (congrFun pg_102 48).trans rfl
theorem q_102_48 {l0 l2 : Value} {x : Int32} {S : List Value} {Z : gZ} {I : gI} {J : gJ} : g_at 102 48 [l0, .int x, l2] S Z I J = g_at 102 49 [l0, .int x, l2] (.int x :: S) Z I J := gq_iload e_102_48 rfl
theorem e_102_49 : g_Pg 102 49 = ga_iald 50 := (congrFun pg_102 49).trans rfl
theorem q_102_49 {L : List Value} {a : Nat} {i : Int32} {S : List Value} {Z : gZ} {I : gI} {J : gJ} (h : gTg8 (gKd Z a).1 a = true) (h0 : 0 ≤ i) (h1 : i.toNatClampNeg < (gKd Z a).2) : g_at 102 49 L (.int i :: .ref a :: S) Z I J = g_at 102 50 L (.int (I a i.toNatClampNeg) :: S) Z I J := gq_iald e_102_49 h h0 h1
theorem e_102_50 : g_Pg 102 50 = ga_iret := (congrFun pg_102 50).trans rfl
theorem q_102_50 {L : List Value} {x : Int32} {Z : gZ} {I : gI} {J : gJ} : g_at 102 50 L [.int x] Z I J = some (some (.int x), Z, I, J) := gq_iret e_102_50
theorem e_102_51 : g_Pg 102 51 = ga_aload 0 52 := (congrFun pg_102 51).trans rfl
theorem q_102_51 {l1 l2 : Value} {x : Nat} {S : List Value} {Z : gZ} {I : gI} {J : gJ} : g_at 102 51 [.ref x, l1, l2] S Z I J = g_at 102 52 [.ref x, l1, l2] (.ref x :: S) Z I J := gq_aload e_102_51 rfl
theorem e_102_52 : g_Pg 102 52 = ga_getR 7 4 55 := (congrFun pg_102 52).trans rfl
theorem q_102_52 {L : List Value} {a : Nat} {S : List Value} {Z : gZ} {I : gI} {J : gJ} (h : (gKd Z a).1 = 7) (h1 : gRs Z a 4 = true) : g_at 102 52 L (.ref a :: S) Z I J = g_at 102 55 L (.ref (gRq Z a 4) :: S) Z I J := gq_getR e_102_52 h h1
theorem e_102_55 : g_Pg 102 55 = ga_iload 1 56 := (congrFun pg_102 55).trans rfl
theorem q_102_55 {l0 l2 : Value} {x : Int32} {S : List Value} {Z : gZ} {I : gI} {J : gJ} : g_at 102 55 [l0, .int x, l2] S Z I J = g_at 102 56 [l0, .int x, l2] (.int x :: S) Z I J := gq_iload e_102_55 rfl
theorem e_102_56 : g_Pg 102 56 = ga_iald 57 := (congrFun pg_102 56).trans rfl
theorem q_102_56 {L : List Value} {a : Nat} {i : Int32} {S : List Value} {Z : gZ} {I : gI} {J : gJ} (h : gTg8 (gKd Z a).1 a = true) (h0 : 0 ≤ i) (h1 : i.toNatClampNeg < (gKd Z a).2) : g_at 102 56 L (.int i :: .ref a :: S) Z I J = g_at 102 57 L (.int (I a i.toNatClampNeg) :: S) Z I J := gq_iald e_102_56 h h0 h1
theorem e_102_57 : g_Pg 102 57 = ga_iret := (congrFun pg_102 57).trans rfl
theorem q_102_57 {L : List Value} {x : Int32} {Z : gZ} {I : gI} {J : gJ} : g_at 102 57 L [.int x] Z I J = some (some (.int x), Z, I, J) := gq_iret e_102_57
theorem e_102_58 : g_Pg 102 58 = ga_aload 0 59 := (congrFun pg_102 58).trans rfl
theorem q_102_58 {l1 l2 : Value} {x : Nat} {S : List Value} {Z : gZ} {I : gI} {J : gJ} : g_at 102 58 [.ref x, l1, l2] S Z I J = g_at 102 59 [.ref x, l1, l2] (.ref x :: S) Z I J := gq_aload e_102_58 rfl
theorem e_102_59 : g_Pg 102 59 = ga_iload 1 60 := (congrFun pg_102 59).trans rfl
theorem q_102_59 {l0 l2 : Value} {x : Int32} {S : List Value} {Z : gZ} {I : gI} {J : gJ} : g_at 102 59 [l0, .int x, l2] S Z I J = g_at 102 60 [l0, .int x, l2] (.int x :: S) Z I J := gq_iload e_102_59 rfl
theorem e_102_60 : g_Pg 102 60 = ga_callV 7 100 1 63 := (congrFun pg_102 60).trans rfl
theorem q_102_60 {L : List Value} {a0 : Int32} {a1 : Nat} {Z : gZ} {I : gI} {J : gJ} (h : (gKd Z a1).1 = 7) : g_at 102 60 L [.int a0, .ref a1] Z I J = (g_at 100 0 [.ref a1, .int a0] [] Z I J).bind (fun r => g_at 102 63 L (r.1.toList ++ []) r.2.1 r.2.2.1 r.2.2.2) := gq_callV e_102_60 rfl rfl h rfl rfl rfl rfl rfl
theorem e_102_63 : g_Pg 102 63 = ga_iret := (congrFun pg_102 63).trans rfl
theorem q_102_63 {L : List Value} {x : Int32} {Z : gZ} {I : gI} {J : gJ} : g_at 102 63 L [.int x] Z I J = some (some (.int x), Z, I, J) := gq_iret e_102_63
theorem e_102_64 : g_Pg 102 64 = ga_aload 0 65 := (congrFun pg_102 64).trans rfl
theorem q_102_64 {l1 l2 : Value} {x : Nat} {S : List Value} {Z : gZ} {I : gI} {J : gJ} : g_at 102 64 [.ref x, l1, l2] S Z I J = g_at 102 65 [.ref x, l1, l2] (.ref x :: S) Z I J := gq_aload e_102_64 rfl
theorem e_102_65 : g_Pg 102 65 = ga_getI 7 20 68 := (congrFun pg_102 65).trans rfl
theorem q_102_65 {L : List Value} {a : Nat} {S : List Value} {Z : gZ} {I : gI} {J : gJ} (h : (gKd Z a).1 = 7) : g_at 102 65 L (.ref a :: S) Z I J = g_at 102 68 L (.int (I a 20) :: S) Z I J := gq_getI e_102_65 h
theorem e_102_68 : g_Pg 102 68 = ga_iload 1 69 := (congrFun pg_102 68).trans rfl
theorem q_102_68 {l0 l2 : Value} {x : Int32} {S : List Value} {Z : gZ} {I : gI} {J : gJ} : g_at 102 68 [l0, .int x, l2] S Z I J = g_at 102 69 [l0, .int x, l2] (.int x :: S) Z I J := gq_iload e_102_68 rfl
theorem e_102_69 : g_Pg 102 69 = ga_bin (fun x y => x >>> (y &&& 31)) 70 := (congrFun pg_102 69).trans rfl
theorem q_102_69 {L : List Value} {x y : Int32} {S : List Value} {Z : gZ} {I : gI} {J : gJ} : g_at 102 69 L (.int y :: .int x :: S) Z I J = g_at 102 70 L (.int (x >>> (y &&& 31)) :: S) Z I J := gq_bin e_102_69
theorem e_102_70 : g_Pg 102 70 = ga_push (.int 1) 71 := (congrFun pg_102 70).trans rfl
theorem q_102_70 {L : List Value} {S : List Value} {Z : gZ} {I : gI} {J : gJ} : g_at 102 70 L S Z I J = g_at 102 71 L (.int 1 :: S) Z I J := gq_push e_102_70
theorem e_102_71 : g_Pg 102 71 = ga_bin (fun x y => x &&& y) 72 := (congrFun pg_102 71).trans rfl
theorem q_102_71 {L : List Value} {x y : Int32} {S : List Value} {Z : gZ} {I : gI} {J : gJ} : g_at 102 71 L (.int y :: .int x :: S) Z I J = g_at 102 72 L (.int (x &&& y) :: S) Z I J := gq_bin e_102_71
theorem e_102_72 : g_Pg 102 72 = ga_iret := (congrFun pg_102 72).trans rfl
theorem q_102_72 {L : List Value} {x : Int32} {Z : gZ} {I : gI} {J : gJ} : g_at 102 72 L [.int x] Z I J = some (some (.int x), Z, I, J) := gq_iret e_102_72
theorem e_102_73 : g_Pg 102 73 = ga_push (.int (-3)) 75 := (congrFun pg_102 73).trans rfl
theorem q_102_73 {L : List Value} {S : List Value} {Z : gZ} {I : gI} {J : gJ} : g_at 102 73 L S Z I J = g_at 102 75 L (.int (-3) :: S) Z I J := gq_push e_102_73
theorem e_102_75 : g_Pg 102 75 = ga_iret := (congrFun pg_102 75).trans rfl
theorem q_102_75 {L : List Value} {x : Int32} {Z : gZ} {I : gI} {J : gJ} : g_at 102 75 L [.int x] Z I J = some (some (.int x), Z, I, J) := gq_iret e_102_75
theorem e_103_0 : g_Pg 103 0 = ga_aload 0 1 := (congrFun pg_103 0).trans rfl
theorem q_103_0 {l1 l2 l3 l4 : Value} {x : Nat} {S : List Value} {Z : gZ} {I : gI} {J : gJ} : g_at 103 0 [.ref x, l1, l2, l3, l4] S Z I J = g_at 103 1 [.ref x, l1, l2, l3, l4] (.ref x :: S) Z I J := gq_aload e_103_0 rfl
theorem e_103_1 : g_Pg 103 1 = ga_iload 1 2 := (congrFun pg_103 1).trans rfl
theorem q_103_1 {l0 l2 l3 l4 : Value} {x : Int32} {S : List Value} {Z : gZ} {I : gI} {J : gJ} : g_at 103 1 [l0, .int x, l2, l3, l4] S Z I J = g_at 103 2 [l0, .int x, l2, l3, l4] (.int x :: S) Z I J := gq_iload e_103_1 rfl
theorem e_103_2 : g_Pg 103 2 = ga_callV 7 85 1 5 := (congrFun pg_103 2).trans rfl
theorem q_103_2 {L : List Value} {a0 : Int32} {a1 : Nat} {Z : gZ} {I : gI} {J : gJ} (h : (gKd Z a1).1 = 7) : g_at 103 2 L [.int a0, .ref a1] Z I J = (g_at 85 0 [.ref a1, .int a0] [] Z I J).bind (fun r => g_at 103 5 L (r.1.toList ++ []) r.2.1 r.2.2.1 r.2.2.2) := gq_callV e_103_2 rfl rfl h rfl rfl rfl rfl rfl
theorem e_103_5 : g_Pg 103 5 = ga_if (fun x => decide (¬ x = 0)) 11 8 := (congrFun pg_103 5).trans rfl
theorem q_103_5 {L : List Value} {x : Int32} {S : List Value} {Z : gZ} {I : gI} {J : gJ} : g_at 103 5 L (.int x :: S) Z I J = if ¬ x = 0 then g_at 103 11 L S Z I J else g_at 103 8 L S Z I J := gq_if e_103_5 rfl
theorem e_103_8 : g_Pg 103 8 = ga_push (.int (-2)) 10 := (congrFun pg_103 8).trans rfl
theorem q_103_8 {L : List Value} {S : List Value} {Z : gZ} {I : gI} {J : gJ} : g_at 103 8 L S Z I J = g_at 103 10 L (.int (-2) :: S) Z I J := gq_push e_103_8
theorem e_103_10 : g_Pg 103 10 = ga_iret := (congrFun pg_103 10).trans rfl
theorem q_103_10 {L : List Value} {x : Int32} {Z : gZ} {I : gI} {J : gJ} : g_at 103 10 L [.int x] Z I J = some (some (.int x), Z, I, J) := gq_iret e_103_10
theorem e_103_11 : g_Pg 103 11 = ga_iload 2 12 := (congrFun pg_103 11).trans rfl
theorem q_103_11 {l0 l1 l3 l4 : Value} {x : Int32} {S : List Value} {Z : gZ} {I : gI} {J : gJ} : g_at 103 11 [l0, l1, .int x, l3, l4] S Z I J = g_at 103 12 [l0, l1, .int x, l3, l4] (.int x :: S) Z I J := gq_iload e_103_11 rfl
theorem e_103_12 : g_Pg 103 12 = ga_push (.int 0) 13 := (congrFun pg_103 12).trans rfl
theorem q_103_12 {L : List Value} {S : List Value} {Z : gZ} {I : gI} {J : gJ} : g_at 103 12 L S Z I J = g_at 103 13 L (.int 0 :: S) Z I J := gq_push e_103_12
theorem e_103_13 : g_Pg 103 13 = ga_push (.int 4) 14 := (congrFun pg_103 13).trans rfl
theorem q_103_13 {L : List Value} {S : List Value} {Z : gZ} {I : gI} {J : gJ} : g_at 103 13 L S Z I J = g_at 103 14 L (.int 4 :: S) Z I J := gq_push e_103_13
theorem e_103_14 : g_Pg 103 14 = ga_call 83 3 17 := (congrFun pg_103 14).trans rfl
theorem q_103_14 {L : List Value} {a0 : Int32} {a1 : Int32} {a2 : Int32} {Z : gZ} {I : gI} {J : gJ} : g_at 103 14 L [.int a0, .int a1, .int a2] Z I J = (g_at 83 0 [.int a2, .int a1, .int a0] [] Z I J).bind (fun r => g_at 103 17 L (r.1.toList ++ []) r.2.1 r.2.2.1 r.2.2.2) := gq_call e_103_14 rfl rfl rfl rfl rfl
theorem e_103_17 : g_Pg 103 17 = ga_if (fun x => decide (¬ x = 0)) 23 20 := (congrFun pg_103 17).trans rfl
theorem q_103_17 {L : List Value} {x : Int32} {S : List Value} {Z : gZ} {I : gI} {J : gJ} : g_at 103 17 L (.int x :: S) Z I J = if ¬ x = 0 then g_at 103 23 L S Z I J else g_at 103 20 L S Z I J := gq_if e_103_17 rfl
theorem e_103_20 : g_Pg 103 20 = ga_push (.int (-3)) 22 := (congrFun pg_103 20).trans rfl
theorem q_103_20 {L : List Value} {S : List Value} {Z : gZ} {I : gI} {J : gJ} : g_at 103 20 L S Z I J = g_at 103 22 L (.int (-3) :: S) Z I J := gq_push e_103_20
theorem e_103_22 : g_Pg 103 22 = ga_iret := (congrFun pg_103 22).trans rfl
theorem q_103_22 {L : List Value} {x : Int32} {Z : gZ} {I : gI} {J : gJ} : g_at 103 22 L [.int x] Z I J = some (some (.int x), Z, I, J) := gq_iret e_103_22
theorem e_103_23 : g_Pg 103 23 = ga_aload 0 24 := (congrFun pg_103 23).trans rfl
theorem q_103_23 {l1 l2 l3 l4 : Value} {x : Nat} {S : List Value} {Z : gZ} {I : gI} {J : gJ} : g_at 103 23 [.ref x, l1, l2, l3, l4] S Z I J = g_at 103 24 [.ref x, l1, l2, l3, l4] (.ref x :: S) Z I J := gq_aload e_103_23 rfl
theorem e_103_24 : g_Pg 103 24 = ga_getR 7 3 27 := (congrFun pg_103 24).trans rfl
theorem q_103_24 {L : List Value} {a : Nat} {S : List Value} {Z : gZ} {I : gI} {J : gJ} (h : (gKd Z a).1 = 7) (h1 : gRs Z a 3 = true) : g_at 103 24 L (.ref a :: S) Z I J = g_at 103 27 L (.ref (gRq Z a 3) :: S) Z I J := gq_getR e_103_24 h h1
theorem e_103_27 : g_Pg 103 27 = ga_iload 1 28 := (congrFun pg_103 27).trans rfl
theorem q_103_27 {l0 l2 l3 l4 : Value} {x : Int32} {S : List Value} {Z : gZ} {I : gI} {J : gJ} : g_at 103 27 [l0, .int x, l2, l3, l4] S Z I J = g_at 103 28 [l0, .int x, l2, l3, l4] (.int x :: S) Z I J := gq_iload e_103_27 rfl
theorem e_103_28 : g_Pg 103 28 = ga_iald 29 := (congrFun pg_103 28).trans rfl
theorem q_103_28 {L : List Value} {a : Nat} {i : Int32} {S : List Value} {Z : gZ} {I : gI} {J : gJ} (h : gTg8 (gKd Z a).1 a = true) (h0 : 0 ≤ i) (h1 : i.toNatClampNeg < (gKd Z a).2) : g_at 103 28 L (.int i :: .ref a :: S) Z I J = g_at 103 29 L (.int (I a i.toNatClampNeg) :: S) Z I J := gq_iald e_103_28 h h0 h1
theorem e_103_29 : g_Pg 103 29 = ga_istore 3 30 := (congrFun pg_103 29).trans rfl
theorem q_103_29 {l0 l1 l2 l3 l4 : Value} {x : Int32} {S : List Value} {Z : gZ} {I : gI} {J : gJ} (h : gN1 l2 = true) : g_at 103 29 [l0, l1, l2, l3, l4] (.int x :: S) Z I J = g_at 103 30 [l0, l1, l2, .int x, l4] S Z I J := gq_istore e_103_29 h rfl rfl
theorem e_103_30 : g_Pg 103 30 = ga_iload 2 31 := (congrFun pg_103 30).trans rfl
theorem q_103_30 {l0 l1 l3 l4 : Value} {x : Int32} {S : List Value} {Z : gZ} {I : gI} {J : gJ} : g_at 103 30 [l0, l1, .int x, l3, l4] S Z I J = g_at 103 31 [l0, l1, .int x, l3, l4] (.int x :: S) Z I J := gq_iload e_103_30 rfl
theorem e_103_31 : g_Pg 103 31 = ga_if (fun x => decide (x = 0)) 67 34 := (congrFun pg_103 31).trans rfl
theorem q_103_31 {L : List Value} {x : Int32} {S : List Value} {Z : gZ} {I : gI} {J : gJ} : g_at 103 31 L (.int x :: S) Z I J = if x = 0 then g_at 103 67 L S Z I J else g_at 103 34 L S Z I J := gq_if e_103_31 rfl
theorem e_103_34 : g_Pg 103 34 = ga_iload 2 35 := (congrFun pg_103 34).trans rfl
theorem q_103_34 {l0 l1 l3 l4 : Value} {x : Int32} {S : List Value} {Z : gZ} {I : gI} {J : gJ} : g_at 103 34 [l0, l1, .int x, l3, l4] S Z I J = g_at 103 35 [l0, l1, .int x, l3, l4] (.int x :: S) Z I J := gq_iload e_103_34 rfl
theorem e_103_35 : g_Pg 103 35 = ga_push (.int 1) 36 := (congrFun pg_103 35).trans rfl
theorem q_103_35 {L : List Value} {S : List Value} {Z : gZ} {I : gI} {J : gJ} : g_at 103 35 L S Z I J = g_at 103 36 L (.int 1 :: S) Z I J := gq_push e_103_35
theorem e_103_36 : g_Pg 103 36 = ga_cmp (fun x y => decide (¬ x = y)) 47 39 := (congrFun pg_103 36).trans rfl
theorem q_103_36 {L : List Value} {x y : Int32} {S : List Value} {Z : gZ} {I : gI} {J : gJ} : g_at 103 36 L (.int y :: .int x :: S) Z I J = if ¬ x = y then g_at 103 47 L S Z I J else g_at 103 39 L S Z I J := gq_cmp e_103_36 rfl
theorem e_103_39 : g_Pg 103 39 = ga_iload 3 40 := (congrFun pg_103 39).trans rfl
theorem q_103_39 {l0 l1 l2 l4 : Value} {x : Int32} {S : List Value} {Z : gZ} {I : gI} {J : gJ} : g_at 103 39 [l0, l1, l2, .int x, l4] S Z I J = g_at 103 40 [l0, l1, l2, .int x, l4] (.int x :: S) Z I J := gq_iload e_103_39 rfl
theorem e_103_40 : g_Pg 103 40 = ga_push (.int 1) 41 := (congrFun pg_103 40).trans rfl
theorem q_103_40 {L : List Value} {S : List Value} {Z : gZ} {I : gI} {J : gJ} : g_at 103 40 L S Z I J = g_at 103 41 L (.int 1 :: S) Z I J := gq_push e_103_40
theorem e_103_41 : g_Pg 103 41 = ga_cmp (fun x y => decide (x = y)) 71 44 := (congrFun pg_103 41).trans rfl
theorem q_103_41 {L : List Value} {x y : Int32} {S : List Value} {Z : gZ} {I : gI} {J : gJ} : g_at 103 41 L (.int y :: .int x :: S) Z I J = if x = y then g_at 103 71 L S Z I J else g_at 103 44 L S Z I J := gq_cmp e_103_41 rfl
theorem e_103_44 : g_Pg 103 44 = ga_goto 67 := (congrFun pg_103 44).trans rfl
theorem q_103_44 {L : List Value} {S : List Value} {Z : gZ} {I : gI} {J : gJ} : g_at 103 44 L S Z I J = g_at 103 67 L S Z I J := gq_goto e_103_44
theorem e_103_47 : g_Pg 103 47 = ga_iload 2 48 := (congrFun pg_103 47).trans rfl
theorem q_103_47 {l0 l1 l3 l4 : Value} {x : Int32} {S : List Value} {Z : gZ} {I : gI} {J : gJ} : g_at 103 47 [l0, l1, .int x, l3, l4] S Z I J = g_at 103 48 [l0, l1, .int x, l3, l4] (.int x :: S) Z I J := gq_iload e_103_47 rfl
theorem e_103_48 : g_Pg 103 48 = ga_push (.int 2) 49 := (congrFun pg_103 48).trans rfl
theorem q_103_48 {L : List Value} {S : List Value} {Z : gZ} {I : gI} {J : gJ} : g_at 103 48 L S Z I J = g_at 103 49 L (.int 2 :: S) Z I J := gq_push e_103_48
theorem e_103_49 : g_Pg 103 49 = ga_cmp (fun x y => decide (¬ x = y)) 60 52 := (congrFun pg_103 49).trans rfl
theorem q_103_49 {L : List Value} {x y : Int32} {S : List Value} {Z : gZ} {I : gI} {J : gJ} : g_at 103 49 L (.int y :: .int x :: S) Z I J = if ¬ x = y then g_at 103 60 L S Z I J else g_at 103 52 L S Z I J := gq_cmp e_103_49 rfl
theorem e_103_52 : g_Pg 103 52 = ga_iload 3 53 := (congrFun pg_103 52).trans rfl
theorem q_103_52 {l0 l1 l2 l4 : Value} {x : Int32} {S : List Value} {Z : gZ} {I : gI} {J : gJ} : g_at 103 52 [l0, l1, l2, .int x, l4] S Z I J = g_at 103 53 [l0, l1, l2, .int x, l4] (.int x :: S) Z I J := gq_iload e_103_52 rfl
theorem e_103_53 : g_Pg 103 53 = ga_push (.int 1) 54 := (congrFun pg_103 53).trans rfl
theorem q_103_53 {L : List Value} {S : List Value} {Z : gZ} {I : gI} {J : gJ} : g_at 103 53 L S Z I J = g_at 103 54 L (.int 1 :: S) Z I J := gq_push e_103_53
theorem e_103_54 : g_Pg 103 54 = ga_cmp (fun x y => decide (¬ x = y)) 71 57 := (congrFun pg_103 54).trans rfl
theorem q_103_54 {L : List Value} {x y : Int32} {S : List Value} {Z : gZ} {I : gI} {J : gJ} : g_at 103 54 L (.int y :: .int x :: S) Z I J = if ¬ x = y then g_at 103 71 L S Z I J else g_at 103 57 L S Z I J := gq_cmp e_103_54 rfl
theorem e_103_57 : g_Pg 103 57 = ga_goto 67 := (congrFun pg_103 57).trans rfl
theorem q_103_57 {L : List Value} {S : List Value} {Z : gZ} {I : gI} {J : gJ} : g_at 103 57 L S Z I J = g_at 103 67 L S Z I J := gq_goto e_103_57
theorem e_103_60 : g_Pg 103 60 = ga_iload 3 61 := (congrFun pg_103 60).trans rfl
theorem q_103_60 {l0 l1 l2 l4 : Value} {x : Int32} {S : List Value} {Z : gZ} {I : gI} {J : gJ} : g_at 103 60 [l0, l1, l2, .int x, l4] S Z I J = g_at 103 61 [l0, l1, l2, .int x, l4] (.int x :: S) Z I J := gq_iload e_103_60 rfl
theorem e_103_61 : g_Pg 103 61 = ga_iload 2 62 := (congrFun pg_103 61).trans rfl
theorem q_103_61 {l0 l1 l3 l4 : Value} {x : Int32} {S : List Value} {Z : gZ} {I : gI} {J : gJ} : g_at 103 61 [l0, l1, .int x, l3, l4] S Z I J = g_at 103 62 [l0, l1, .int x, l3, l4] (.int x :: S) Z I J := gq_iload e_103_61 rfl
theorem e_103_62 : g_Pg 103 62 = ga_push (.int 1) 63 := (congrFun pg_103 62).trans rfl
theorem q_103_62 {L : List Value} {S : List Value} {Z : gZ} {I : gI} {J : gJ} : g_at 103 62 L S Z I J = g_at 103 63 L (.int 1 :: S) Z I J := gq_push e_103_62
theorem e_103_63 : g_Pg 103 63 = ga_bin (fun x y => x - y) 64 := (congrFun pg_103 63).trans rfl
theorem q_103_63 {L : List Value} {x y : Int32} {S : List Value} {Z : gZ} {I : gI} {J : gJ} : g_at 103 63 L (.int y :: .int x :: S) Z I J = g_at 103 64 L (.int (x - y) :: S) Z I J := gq_bin e_103_63
theorem e_103_64 : g_Pg 103 64 = ga_cmp (fun x y => decide (¬ x = y)) 71 67 := (congrFun pg_103 64).trans rfl
theorem q_103_64 {L : List Value} {x y : Int32} {S : List Value} {Z : gZ} {I : gI} {J : gJ} : g_at 103 64 L (.int y :: .int x :: S) Z I J = if ¬ x = y then g_at 103 71 L S Z I J else g_at 103 67 L S Z I J := gq_cmp e_103_64 rfl
theorem e_103_67 : g_Pg 103 67 = ga_push (.int 1) 68 := (congrFun pg_103 67).trans rfl
theorem q_103_67 {L : List Value} {S : List Value} {Z : gZ} {I : gI} {J : gJ} : g_at 103 67 L S Z I J = g_at 103 68 L (.int 1 :: S) Z I J := gq_push e_103_67
theorem e_103_68 : g_Pg 103 68 = ga_goto 72 := (congrFun pg_103 68).trans rfl
theorem q_103_68 {L : List Value} {S : List Value} {Z : gZ} {I : gI} {J : gJ} : g_at 103 68 L S Z I J = g_at 103 72 L S Z I J := gq_goto e_103_68
theorem e_103_71 : g_Pg 103 71 = ga_push (.int 0) 72 := (congrFun pg_103 71).trans rfl
theorem q_103_71 {L : List Value} {S : List Value} {Z : gZ} {I : gI} {J : gJ} : g_at 103 71 L S Z I J = g_at 103 72 L (.int 0 :: S) Z I J := gq_push e_103_71
theorem e_103_72 : g_Pg 103 72 = ga_istore 4 74 := (congrFun pg_103 72).trans rfl
theorem q_103_72 {l0 l1 l2 l3 l4 : Value} {x : Int32} {S : List Value} {Z : gZ} {I : gI} {J : gJ} (h : gN1 l3 = true) : g_at 103 72 [l0, l1, l2, l3, l4] (.int x :: S) Z I J = g_at 103 74 [l0, l1, l2, l3, .int x] S Z I J := gq_istore e_103_72 h rfl rfl
theorem e_103_74 : g_Pg 103 74 = ga_iload 4 76 := (congrFun pg_103 74).trans rfl
theorem q_103_74 {l0 l1 l2 l3 : Value} {x : Int32} {S : List Value} {Z : gZ} {I : gI} {J : gJ} : g_at 103 74 [l0, l1, l2, l3, .int x] S Z I J = g_at 103 76 [l0, l1, l2, l3, .int x] (.int x :: S) Z I J := gq_iload e_103_74 rfl
theorem e_103_76 : g_Pg 103 76 = ga_if (fun x => decide (x = 0)) 87 79 := (congrFun pg_103 76).trans rfl
theorem q_103_76 {L : List Value} {x : Int32} {S : List Value} {Z : gZ} {I : gI} {J : gJ} : g_at 103 76 L (.int x :: S) Z I J = if x = 0 then g_at 103 87 L S Z I J else g_at 103 79 L S Z I J := gq_if e_103_76 rfl
theorem e_103_79 : g_Pg 103 79 = ga_aload 0 80 := (congrFun pg_103 79).trans rfl
theorem q_103_79 {l1 l2 l3 l4 : Value} {x : Nat} {S : List Value} {Z : gZ} {I : gI} {J : gJ} : g_at 103 79 [.ref x, l1, l2, l3, l4] S Z I J = g_at 103 80 [.ref x, l1, l2, l3, l4] (.ref x :: S) Z I J := gq_aload e_103_79 rfl
theorem e_103_80 : g_Pg 103 80 = ga_iload 1 81 := (congrFun pg_103 80).trans rfl
theorem q_103_80 {l0 l2 l3 l4 : Value} {x : Int32} {S : List Value} {Z : gZ} {I : gI} {J : gJ} : g_at 103 80 [l0, .int x, l2, l3, l4] S Z I J = g_at 103 81 [l0, .int x, l2, l3, l4] (.int x :: S) Z I J := gq_iload e_103_80 rfl
theorem e_103_81 : g_Pg 103 81 = ga_callV 7 100 1 84 := (congrFun pg_103 81).trans rfl
theorem q_103_81 {L : List Value} {a0 : Int32} {a1 : Nat} {Z : gZ} {I : gI} {J : gJ} (h : (gKd Z a1).1 = 7) : g_at 103 81 L [.int a0, .ref a1] Z I J = (g_at 100 0 [.ref a1, .int a0] [] Z I J).bind (fun r => g_at 103 84 L (r.1.toList ++ []) r.2.1 r.2.2.1 r.2.2.2) := gq_callV e_103_81 rfl rfl h rfl rfl rfl rfl rfl
theorem e_103_84 : g_Pg 103 84 = ga_goto 89 := (congrFun pg_103 84).trans rfl
theorem q_103_84 {L : List Value} {S : List Value} {Z : gZ} {I : gI} {J : gJ} : g_at 103 84 L S Z I J = g_at 103 89 L S Z I J := gq_goto e_103_84
theorem e_103_87 : g_Pg 103 87 = ga_push (.int (-4)) 89 := (congrFun pg_103 87).trans rfl
theorem q_103_87 {L : List Value} {S : List Value} {Z : gZ} {I : gI} {J : gJ} : g_at 103 87 L S Z I J = g_at 103 89 L (.int (-4) :: S) Z I J := gq_push e_103_87
theorem e_103_89 : g_Pg 103 89 = ga_iret := (congrFun pg_103 89).trans rfl
theorem q_103_89 {L : List Value} {x : Int32} {Z : gZ} {I : gI} {J : gJ} : g_at 103 89 L [.int x] Z I J = some (some (.int x), Z, I, J) := gq_iret e_103_89
theorem e_104_0 : g_Pg 104 0 = ga_push (.int 0) 1 := (congrFun pg_104 0).trans rfl
theorem q_104_0 {L : List Value} {S : List Value} {Z : gZ} {I : gI} {J : gJ} : g_at 104 0 L S Z I J = g_at 104 1 L (.int 0 :: S) Z I J := gq_push e_104_0
theorem e_104_1 : g_Pg 104 1 = ga_istore 2 2 := (congrFun pg_104 1).trans rfl
theorem q_104_1 {l0 l1 l2 l3 : Value} {x : Int32} {S : List Value} {Z : gZ} {I : gI} {J : gJ} (h : gN1 l1 = true) : g_at 104 1 [l0, l1, l2, l3] (.int x :: S) Z I J = g_at 104 2 [l0, l1, .int x, l3] S Z I J := gq_istore e_104_1 h rfl rfl
theorem e_104_2 : g_Pg 104 2 = ga_aload 0 3 := (congrFun pg_104 2).trans rfl
theorem q_104_2 {l1 l2 l3 : Value} {x : Nat} {S : List Value} {Z : gZ} {I : gI} {J : gJ} : g_at 104 2 [.ref x, l1, l2, l3] S Z I J = g_at 104 3 [.ref x, l1, l2, l3] (.ref x :: S) Z I J := gq_aload e_104_2 rfl
theorem e_104_3 : g_Pg 104 3 = ga_getR 7 19 6 := (congrFun pg_104 3).trans rfl
theorem q_104_3 {L : List Value} {a : Nat} {S : List Value} {Z : gZ} {I : gI} {J : gJ} (h : (gKd Z a).1 = 7) (h1 : gRs Z a 19 = true) : g_at 104 3 L (.ref a :: S) Z I J = g_at 104 6 L (.ref (gRq Z a 19) :: S) Z I J := gq_getR e_104_3 h h1
theorem e_104_6 : g_Pg 104 6 = ga_iload 1 7 := (congrFun pg_104 6).trans rfl
theorem q_104_6 {l0 l2 l3 : Value} {x : Int32} {S : List Value} {Z : gZ} {I : gI} {J : gJ} : g_at 104 6 [l0, .int x, l2, l3] S Z I J = g_at 104 7 [l0, .int x, l2, l3] (.int x :: S) Z I J := gq_iload e_104_6 rfl
theorem e_104_7 : g_Pg 104 7 = ga_dup2 8 := (congrFun pg_104 7).trans rfl
theorem q_104_7 {L : List Value} {x : Nat} {y : Int32} {S : List Value} {Z : gZ} {I : gI} {J : gJ} : g_at 104 7 L (.int y :: .ref x :: S) Z I J = g_at 104 8 L (.int y :: .ref x :: .int y :: .ref x :: S) Z I J := gq_dup2 e_104_7
theorem e_104_8 : g_Pg 104 8 = ga_iald 9 := (congrFun pg_104 8).trans rfl
theorem q_104_8 {L : List Value} {a : Nat} {i : Int32} {S : List Value} {Z : gZ} {I : gI} {J : gJ} (h : gTg8 (gKd Z a).1 a = true) (h0 : 0 ≤ i) (h1 : i.toNatClampNeg < (gKd Z a).2) : g_at 104 8 L (.int i :: .ref a :: S) Z I J = g_at 104 9 L (.int (I a i.toNatClampNeg) :: S) Z I J := gq_iald e_104_8 h h0 h1
theorem e_104_9 : g_Pg 104 9 = ga_push (.int 1) 10 := (congrFun pg_104 9).trans rfl
theorem q_104_9 {L : List Value} {S : List Value} {Z : gZ} {I : gI} {J : gJ} : g_at 104 9 L S Z I J = g_at 104 10 L (.int 1 :: S) Z I J := gq_push e_104_9
theorem e_104_10 : g_Pg 104 10 = ga_bin (fun x y => x + y) 11 := (congrFun pg_104 10).trans rfl
theorem q_104_10 {L : List Value} {x y : Int32} {S : List Value} {Z : gZ} {I : gI} {J : gJ} : g_at 104 10 L (.int y :: .int x :: S) Z I J = g_at 104 11 L (.int (x + y) :: S) Z I J := gq_bin e_104_10
theorem e_104_11 : g_Pg 104 11 = ga_iast 12 := (congrFun pg_104 11).trans rfl
theorem q_104_11 {L : List Value} {a : Nat} {i : Int32} {v : Int32} {S : List Value} {Z : gZ} {I : gI} {J : gJ} (h : (gKd Z a).1 = 8) (h0 : 0 ≤ i) (h1 : i.toNatClampNeg < (gKd Z a).2) : g_at 104 11 L (.int v :: .int i :: .ref a :: S) Z I J = g_at 104 12 L S Z (va_up I a (va_up (I a) i.toNatClampNeg v)) J := gq_iast e_104_11 h h0 h1
theorem e_104_12 : g_Pg 104 12 = ga_push (.int 0) 13 := (congrFun pg_104 12).trans rfl
theorem q_104_12 {L : List Value} {S : List Value} {Z : gZ} {I : gI} {J : gJ} : g_at 104 12 L S Z I J = g_at 104 13 L (.int 0 :: S) Z I J := gq_push e_104_12
theorem e_104_13 : g_Pg 104 13 = ga_istore 3 14 := (congrFun pg_104 13).trans rfl
theorem q_104_13 {l0 l1 l2 l3 : Value} {x : Int32} {S : List Value} {Z : gZ} {I : gI} {J : gJ} (h : gN1 l2 = true) : g_at 104 13 [l0, l1, l2, l3] (.int x :: S) Z I J = g_at 104 14 [l0, l1, l2, .int x] S Z I J := gq_istore e_104_13 h rfl rfl
theorem e_104_14 : g_Pg 104 14 = ga_iload 3 15 := (congrFun pg_104 14).trans rfl
theorem q_104_14 {l0 l1 l2 : Value} {x : Int32} {S : List Value} {Z : gZ} {I : gI} {J : gJ} : g_at 104 14 [l0, l1, l2, .int x] S Z I J = g_at 104 15 [l0, l1, l2, .int x] (.int x :: S) Z I J := gq_iload e_104_14 rfl
theorem e_104_15 : g_Pg 104 15 = ga_aload 0 16 := (congrFun pg_104 15).trans rfl
theorem q_104_15 {l1 l2 l3 : Value} {x : Nat} {S : List Value} {Z : gZ} {I : gI} {J : gJ} : g_at 104 15 [.ref x, l1, l2, l3] S Z I J = g_at 104 16 [.ref x, l1, l2, l3] (.ref x :: S) Z I J := gq_aload e_104_15 rfl
theorem e_104_16 : g_Pg 104 16 = ga_getI 7 0 19 := (congrFun pg_104 16).trans rfl
theorem q_104_16 {L : List Value} {a : Nat} {S : List Value} {Z : gZ} {I : gI} {J : gJ} (h : (gKd Z a).1 = 7) : g_at 104 16 L (.ref a :: S) Z I J = g_at 104 19 L (.int (I a 0) :: S) Z I J := gq_getI e_104_16 h
theorem e_104_19 : g_Pg 104 19 = ga_cmp (fun x y => decide (y ≤ x)) 96 22 := (congrFun pg_104 19).trans rfl
theorem q_104_19 {L : List Value} {x y : Int32} {S : List Value} {Z : gZ} {I : gI} {J : gJ} : g_at 104 19 L (.int y :: .int x :: S) Z I J = if y ≤ x then g_at 104 96 L S Z I J else g_at 104 22 L S Z I J := gq_cmp e_104_19 rfl
theorem e_104_22 : g_Pg 104 22 = ga_aload 0 23 := (congrFun pg_104 22).trans rfl
theorem q_104_22 {l1 l2 l3 : Value} {x : Nat} {S : List Value} {Z : gZ} {I : gI} {J : gJ} : g_at 104 22 [.ref x, l1, l2, l3] S Z I J = g_at 104 23 [.ref x, l1, l2, l3] (.ref x :: S) Z I J := gq_aload e_104_22 rfl
theorem e_104_23 : g_Pg 104 23 = ga_getR 7 1 26 := (congrFun pg_104 23).trans rfl
theorem q_104_23 {L : List Value} {a : Nat} {S : List Value} {Z : gZ} {I : gI} {J : gJ} (h : (gKd Z a).1 = 7) (h1 : gRs Z a 1 = true) : g_at 104 23 L (.ref a :: S) Z I J = g_at 104 26 L (.ref (gRq Z a 1) :: S) Z I J := gq_getR e_104_23 h h1
theorem e_104_26 : g_Pg 104 26 = ga_iload 3 27 := (congrFun pg_104 26).trans rfl
theorem q_104_26 {l0 l1 l2 : Value} {x : Int32} {S : List Value} {Z : gZ} {I : gI} {J : gJ} : g_at 104 26 [l0, l1, l2, .int x] S Z I J = g_at 104 27 [l0, l1, l2, .int x] (.int x :: S) Z I J := gq_iload e_104_26 rfl
theorem e_104_27 : g_Pg 104 27 = ga_iald 28 := (congrFun pg_104 27).trans rfl
theorem q_104_27 {L : List Value} {a : Nat} {i : Int32} {S : List Value} {Z : gZ} {I : gI} {J : gJ} (h : gTg8 (gKd Z a).1 a = true) (h0 : 0 ≤ i) (h1 : i.toNatClampNeg < (gKd Z a).2) : g_at 104 27 L (.int i :: .ref a :: S) Z I J = g_at 104 28 L (.int (I a i.toNatClampNeg) :: S) Z I J := gq_iald e_104_27 h h0 h1
theorem e_104_28 : g_Pg 104 28 = ga_iload 1 29 := (congrFun pg_104 28).trans rfl
theorem q_104_28 {l0 l2 l3 : Value} {x : Int32} {S : List Value} {Z : gZ} {I : gI} {J : gJ} : g_at 104 28 [l0, .int x, l2, l3] S Z I J = g_at 104 29 [l0, .int x, l2, l3] (.int x :: S) Z I J := gq_iload e_104_28 rfl
theorem e_104_29 : g_Pg 104 29 = ga_cmp (fun x y => decide (¬ x = y)) 90 32 := (congrFun pg_104 29).trans rfl
theorem q_104_29 {L : List Value} {x y : Int32} {S : List Value} {Z : gZ} {I : gI} {J : gJ} : g_at 104 29 L (.int y :: .int x :: S) Z I J = if ¬ x = y then g_at 104 90 L S Z I J else g_at 104 32 L S Z I J := gq_cmp e_104_29 rfl
theorem e_104_32 : g_Pg 104 32 = ga_aload 0 33 := (congrFun pg_104 32).trans rfl
theorem q_104_32 {l1 l2 l3 : Value} {x : Nat} {S : List Value} {Z : gZ} {I : gI} {J : gJ} : g_at 104 32 [.ref x, l1, l2, l3] S Z I J = g_at 104 33 [.ref x, l1, l2, l3] (.ref x :: S) Z I J := gq_aload e_104_32 rfl
theorem e_104_33 : g_Pg 104 33 = ga_iload 3 34 := (congrFun pg_104 33).trans rfl
theorem q_104_33 {l0 l1 l2 : Value} {x : Int32} {S : List Value} {Z : gZ} {I : gI} {J : gJ} : g_at 104 33 [l0, l1, l2, .int x] S Z I J = g_at 104 34 [l0, l1, l2, .int x] (.int x :: S) Z I J := gq_iload e_104_33 rfl
theorem e_104_34 : g_Pg 104 34 = ga_callV 7 99 1 37 := (congrFun pg_104 34).trans rfl
theorem q_104_34 {L : List Value} {a0 : Int32} {a1 : Nat} {Z : gZ} {I : gI} {J : gJ} (h : (gKd Z a1).1 = 7) : g_at 104 34 L [.int a0, .ref a1] Z I J = (g_at 99 0 [.ref a1, .int a0] [] Z I J).bind (fun r => g_at 104 37 L (r.1.toList ++ []) r.2.1 r.2.2.1 r.2.2.2) := gq_callV e_104_34 rfl rfl h rfl rfl rfl rfl rfl
theorem e_104_37 : g_Pg 104 37 = ga_if (fun x => decide (x = 0)) 90 40 := (congrFun pg_104 37).trans rfl
theorem q_104_37 {L : List Value} {x : Int32} {S : List Value} {Z : gZ} {I : gI} {J : gJ} : g_at 104 37 L (.int x :: S) Z I J = if x = 0 then g_at 104 90 L S Z I J else g_at 104 40 L S Z I J := gq_if e_104_37 rfl
theorem e_104_40 : g_Pg 104 40 = ga_aload 0 41 := (congrFun pg_104 40).trans rfl
theorem q_104_40 {l1 l2 l3 : Value} {x : Nat} {S : List Value} {Z : gZ} {I : gI} {J : gJ} : g_at 104 40 [.ref x, l1, l2, l3] S Z I J = g_at 104 41 [.ref x, l1, l2, l3] (.ref x :: S) Z I J := gq_aload e_104_40 rfl
theorem e_104_41 : g_Pg 104 41 = ga_aload 0 42 := (congrFun pg_104 41).trans rfl
theorem q_104_41 {l1 l2 l3 : Value} {x : Nat} {S : List Value} {Z : gZ} {I : gI} {J : gJ} : g_at 104 41 [.ref x, l1, l2, l3] S Z I J = g_at 104 42 [.ref x, l1, l2, l3] (.ref x :: S) Z I J := gq_aload e_104_41 rfl
theorem e_104_42 : g_Pg 104 42 = ga_getR 7 3 45 := (congrFun pg_104 42).trans rfl
theorem q_104_42 {L : List Value} {a : Nat} {S : List Value} {Z : gZ} {I : gI} {J : gJ} (h : (gKd Z a).1 = 7) (h1 : gRs Z a 3 = true) : g_at 104 42 L (.ref a :: S) Z I J = g_at 104 45 L (.ref (gRq Z a 3) :: S) Z I J := gq_getR e_104_42 h h1
theorem e_104_45 : g_Pg 104 45 = ga_iload 3 46 := (congrFun pg_104 45).trans rfl
theorem q_104_45 {l0 l1 l2 : Value} {x : Int32} {S : List Value} {Z : gZ} {I : gI} {J : gJ} : g_at 104 45 [l0, l1, l2, .int x] S Z I J = g_at 104 46 [l0, l1, l2, .int x] (.int x :: S) Z I J := gq_iload e_104_45 rfl
theorem e_104_46 : g_Pg 104 46 = ga_iald 47 := (congrFun pg_104 46).trans rfl
theorem q_104_46 {L : List Value} {a : Nat} {i : Int32} {S : List Value} {Z : gZ} {I : gI} {J : gJ} (h : gTg8 (gKd Z a).1 a = true) (h0 : 0 ≤ i) (h1 : i.toNatClampNeg < (gKd Z a).2) : g_at 104 46 L (.int i :: .ref a :: S) Z I J = g_at 104 47 L (.int (I a i.toNatClampNeg) :: S) Z I J := gq_iald e_104_46 h h0 h1
theorem e_104_47 : g_Pg 104 47 = ga_push (.int 3) 48 := (congrFun pg_104 47).trans rfl
theorem q_104_47 {L : List Value} {S : List Value} {Z : gZ} {I : gI} {J : gJ} : g_at 104 47 L S Z I J = g_at 104 48 L (.int 3 :: S) Z I J := gq_push e_104_47
theorem e_104_48 : g_Pg 104 48 = ga_cmp (fun x y => decide (¬ x = y)) 62 51 := (congrFun pg_104 48).trans rfl
theorem q_104_48 {L : List Value} {x y : Int32} {S : List Value} {Z : gZ} {I : gI} {J : gJ} : g_at 104 48 L (.int y :: .int x :: S) Z I J = if ¬ x = y then g_at 104 62 L S Z I J else g_at 104 51 L S Z I J := gq_cmp e_104_48 rfl
theorem e_104_51 : g_Pg 104 51 = ga_aload 0 52 := (congrFun pg_104 51).trans rfl
theorem q_104_51 {l1 l2 l3 : Value} {x : Nat} {S : List Value} {Z : gZ} {I : gI} {J : gJ} : g_at 104 51 [.ref x, l1, l2, l3] S Z I J = g_at 104 52 [.ref x, l1, l2, l3] (.ref x :: S) Z I J := gq_aload e_104_51 rfl
theorem e_104_52 : g_Pg 104 52 = ga_getI 7 20 55 := (congrFun pg_104 52).trans rfl
theorem q_104_52 {L : List Value} {a : Nat} {S : List Value} {Z : gZ} {I : gI} {J : gJ} (h : (gKd Z a).1 = 7) : g_at 104 52 L (.ref a :: S) Z I J = g_at 104 55 L (.int (I a 20) :: S) Z I J := gq_getI e_104_52 h
theorem e_104_55 : g_Pg 104 55 = ga_push (.int 1) 56 := (congrFun pg_104 55).trans rfl
theorem q_104_55 {L : List Value} {S : List Value} {Z : gZ} {I : gI} {J : gJ} : g_at 104 55 L S Z I J = g_at 104 56 L (.int 1 :: S) Z I J := gq_push e_104_55
theorem e_104_56 : g_Pg 104 56 = ga_iload 3 57 := (congrFun pg_104 56).trans rfl
theorem q_104_56 {l0 l1 l2 : Value} {x : Int32} {S : List Value} {Z : gZ} {I : gI} {J : gJ} : g_at 104 56 [l0, l1, l2, .int x] S Z I J = g_at 104 57 [l0, l1, l2, .int x] (.int x :: S) Z I J := gq_iload e_104_56 rfl
theorem e_104_57 : g_Pg 104 57 = ga_bin (fun x y => x <<< (y &&& 31)) 58 := (congrFun pg_104 57).trans rfl
theorem q_104_57 {L : List Value} {x y : Int32} {S : List Value} {Z : gZ} {I : gI} {J : gJ} : g_at 104 57 L (.int y :: .int x :: S) Z I J = g_at 104 58 L (.int (x <<< (y &&& 31)) :: S) Z I J := gq_bin e_104_57
theorem e_104_58 : g_Pg 104 58 = ga_bin (fun x y => x ^^^ y) 59 := (congrFun pg_104 58).trans rfl
theorem q_104_58 {L : List Value} {x y : Int32} {S : List Value} {Z : gZ} {I : gI} {J : gJ} : g_at 104 58 L (.int y :: .int x :: S) Z I J = g_at 104 59 L (.int (x ^^^ y) :: S) Z I J := gq_bin e_104_58
theorem e_104_59 : g_Pg 104 59 = ga_goto 66 := (congrFun pg_104 59).trans rfl
theorem q_104_59 {L : List Value} {S : List Value} {Z : gZ} {I : gI} {J : gJ} : g_at 104 59 L S Z I J = g_at 104 66 L S Z I J := gq_goto e_104_59
theorem e_104_62 : g_Pg 104 62 = ga_aload 0 63 := (congrFun pg_104 62).trans rfl
theorem q_104_62 {l1 l2 l3 : Value} {x : Nat} {S : List Value} {Z : gZ} {I : gI} {J : gJ} : g_at 104 62 [.ref x, l1, l2, l3] S Z I J = g_at 104 63 [.ref x, l1, l2, l3] (.ref x :: S) Z I J := gq_aload e_104_62 rfl
theorem e_104_63 : g_Pg 104 63 = ga_getI 7 20 66 := (congrFun pg_104 63).trans rfl
theorem q_104_63 {L : List Value} {a : Nat} {S : List Value} {Z : gZ} {I : gI} {J : gJ} (h : (gKd Z a).1 = 7) : g_at 104 63 L (.ref a :: S) Z I J = g_at 104 66 L (.int (I a 20) :: S) Z I J := gq_getI e_104_63 h
theorem e_104_66 : g_Pg 104 66 = ga_putI 7 20 69 := (congrFun pg_104 66).trans rfl
theorem q_104_66 {L : List Value} {a : Nat} {v : Int32} {S : List Value} {Z : gZ} {I : gI} {J : gJ} (h : (gKd Z a).1 = 7) : g_at 104 66 L (.int v :: .ref a :: S) Z I J = g_at 104 69 L S Z (va_up I a (va_up (I a) 20 v)) J := gq_putI e_104_66 h
theorem e_104_69 : g_Pg 104 69 = ga_iload 2 70 := (congrFun pg_104 69).trans rfl
theorem q_104_69 {l0 l1 l3 : Value} {x : Int32} {S : List Value} {Z : gZ} {I : gI} {J : gJ} : g_at 104 69 [l0, l1, .int x, l3] S Z I J = g_at 104 70 [l0, l1, .int x, l3] (.int x :: S) Z I J := gq_iload e_104_69 rfl
theorem e_104_70 : g_Pg 104 70 = ga_aload 0 71 := (congrFun pg_104 70).trans rfl
theorem q_104_70 {l1 l2 l3 : Value} {x : Nat} {S : List Value} {Z : gZ} {I : gI} {J : gJ} : g_at 104 70 [.ref x, l1, l2, l3] S Z I J = g_at 104 71 [.ref x, l1, l2, l3] (.ref x :: S) Z I J := gq_aload e_104_70 rfl
theorem e_104_71 : g_Pg 104 71 = ga_getI 7 20 74 := (congrFun pg_104 71).trans rfl
theorem q_104_71 {L : List Value} {a : Nat} {S : List Value} {Z : gZ} {I : gI} {J : gJ} (h : (gKd Z a).1 = 7) : g_at 104 71 L (.ref a :: S) Z I J = g_at 104 74 L (.int (I a 20) :: S) Z I J := gq_getI e_104_71 h
theorem e_104_74 : g_Pg 104 74 = ga_iload 3 75 := (congrFun pg_104 74).trans rfl
theorem q_104_74 {l0 l1 l2 : Value} {x : Int32} {S : List Value} {Z : gZ} {I : gI} {J : gJ} : g_at 104 74 [l0, l1, l2, .int x] S Z I J = g_at 104 75 [l0, l1, l2, .int x] (.int x :: S) Z I J := gq_iload e_104_74 rfl
theorem e_104_75 : g_Pg 104 75 = ga_call 84 2 78 := (congrFun pg_104 75).trans rfl
theorem q_104_75 {L : List Value} {a0 : Int32} {a1 : Int32} {r2 : Int32} {Z : gZ} {I : gI} {J : gJ} : g_at 104 75 L [.int a0, .int a1, .int r2] Z I J = (g_at 84 0 [.int a1, .int a0] [] Z I J).bind (fun r => g_at 104 78 L (r.1.toList ++ [.int r2]) r.2.1 r.2.2.1 r.2.2.2) := gq_call e_104_75 rfl rfl rfl rfl rfl
theorem e_104_78 : g_Pg 104 78 = ga_if (fun x => decide (x = 0)) 85 81 := (congrFun pg_104 78).trans rfl
theorem q_104_78 {L : List Value} {x : Int32} {S : List Value} {Z : gZ} {I : gI} {J : gJ} : g_at 104 78 L (.int x :: S) Z I J = if x = 0 then g_at 104 85 L S Z I J else g_at 104 81 L S Z I J := gq_if e_104_78 rfl
theorem e_104_81 : g_Pg 104 81 = ga_push (.int 0) 82 := (congrFun pg_104 81).trans rfl
theorem q_104_81 {L : List Value} {S : List Value} {Z : gZ} {I : gI} {J : gJ} : g_at 104 81 L S Z I J = g_at 104 82 L (.int 0 :: S) Z I J := gq_push e_104_81
theorem e_104_82 : g_Pg 104 82 = ga_goto 88 := (congrFun pg_104 82).trans rfl
theorem q_104_82 {L : List Value} {S : List Value} {Z : gZ} {I : gI} {J : gJ} : g_at 104 82 L S Z I J = g_at 104 88 L S Z I J := gq_goto e_104_82
theorem e_104_85 : g_Pg 104 85 = ga_push (.int 1) 86 := (congrFun pg_104 85).trans rfl
theorem q_104_85 {L : List Value} {S : List Value} {Z : gZ} {I : gI} {J : gJ} : g_at 104 85 L S Z I J = g_at 104 86 L (.int 1 :: S) Z I J := gq_push e_104_85
theorem e_104_86 : g_Pg 104 86 = ga_iload 3 87 := (congrFun pg_104 86).trans rfl
theorem q_104_86 {l0 l1 l2 : Value} {x : Int32} {S : List Value} {Z : gZ} {I : gI} {J : gJ} : g_at 104 86 [l0, l1, l2, .int x] S Z I J = g_at 104 87 [l0, l1, l2, .int x] (.int x :: S) Z I J := gq_iload e_104_86 rfl
theorem e_104_87 : g_Pg 104 87 = ga_bin (fun x y => x <<< (y &&& 31)) 88 := (congrFun pg_104 87).trans rfl
theorem q_104_87 {L : List Value} {x y : Int32} {S : List Value} {Z : gZ} {I : gI} {J : gJ} : g_at 104 87 L (.int y :: .int x :: S) Z I J = g_at 104 88 L (.int (x <<< (y &&& 31)) :: S) Z I J := gq_bin e_104_87
theorem e_104_88 : g_Pg 104 88 = ga_bin (fun x y => x ||| y) 89 := (congrFun pg_104 88).trans rfl
theorem q_104_88 {L : List Value} {x y : Int32} {S : List Value} {Z : gZ} {I : gI} {J : gJ} : g_at 104 88 L (.int y :: .int x :: S) Z I J = g_at 104 89 L (.int (x ||| y) :: S) Z I J := gq_bin e_104_88
theorem e_104_89 : g_Pg 104 89 = ga_istore 2 90 := (congrFun pg_104 89).trans rfl
theorem q_104_89 {l0 l1 l2 l3 : Value} {x : Int32} {S : List Value} {Z : gZ} {I : gI} {J : gJ} (h : gN1 l1 = true) : g_at 104 89 [l0, l1, l2, l3] (.int x :: S) Z I J = g_at 104 90 [l0, l1, .int x, l3] S Z I J := gq_istore e_104_89 h rfl rfl
theorem e_104_90 : g_Pg 104 90 = ga_iinc 3 1 93 := (congrFun pg_104 90).trans rfl
theorem q_104_90 {l0 l1 l2 : Value} {x : Int32} {S : List Value} {Z : gZ} {I : gI} {J : gJ} (h : gN1 l2 = true) : g_at 104 90 [l0, l1, l2, .int x] S Z I J = g_at 104 93 [l0, l1, l2, .int (x + 1)] S Z I J := gq_iinc e_104_90 rfl h rfl
theorem e_104_93 : g_Pg 104 93 = ga_goto 14 := (congrFun pg_104 93).trans rfl
theorem q_104_93 {L : List Value} {S : List Value} {Z : gZ} {I : gI} {J : gJ} : g_at 104 93 L S Z I J = g_at 104 14 L S Z I J := gq_goto e_104_93
theorem e_104_96 : g_Pg 104 96 = ga_push (.int 0) 97 := (congrFun pg_104 96).trans rfl
theorem q_104_96 {L : List Value} {S : List Value} {Z : gZ} {I : gI} {J : gJ} : g_at 104 96 L S Z I J = g_at 104 97 L (.int 0 :: S) Z I J := gq_push e_104_96
theorem e_104_97 : g_Pg 104 97 = ga_istore 3 98 := (congrFun pg_104 97).trans rfl
theorem q_104_97 {l0 l1 l2 l3 : Value} {x : Int32} {S : List Value} {Z : gZ} {I : gI} {J : gJ} (h : gN1 l2 = true) : g_at 104 97 [l0, l1, l2, l3] (.int x :: S) Z I J = g_at 104 98 [l0, l1, l2, .int x] S Z I J := gq_istore e_104_97 h rfl rfl
theorem e_104_98 : g_Pg 104 98 = ga_iload 3 99 := (congrFun pg_104 98).trans rfl
theorem q_104_98 {l0 l1 l2 : Value} {x : Int32} {S : List Value} {Z : gZ} {I : gI} {J : gJ} : g_at 104 98 [l0, l1, l2, .int x] S Z I J = g_at 104 99 [l0, l1, l2, .int x] (.int x :: S) Z I J := gq_iload e_104_98 rfl
theorem e_104_99 : g_Pg 104 99 = ga_aload 0 100 := (congrFun pg_104 99).trans rfl
theorem q_104_99 {l1 l2 l3 : Value} {x : Nat} {S : List Value} {Z : gZ} {I : gI} {J : gJ} : g_at 104 99 [.ref x, l1, l2, l3] S Z I J = g_at 104 100 [.ref x, l1, l2, l3] (.ref x :: S) Z I J := gq_aload e_104_99 rfl
theorem e_104_100 : g_Pg 104 100 = ga_getI 7 0 103 := (congrFun pg_104 100).trans rfl
theorem q_104_100 {L : List Value} {a : Nat} {S : List Value} {Z : gZ} {I : gI} {J : gJ} (h : (gKd Z a).1 = 7) : g_at 104 100 L (.ref a :: S) Z I J = g_at 104 103 L (.int (I a 0) :: S) Z I J := gq_getI e_104_100 h
theorem e_104_103 : g_Pg 104 103 = ga_cmp (fun x y => decide (y ≤ x)) 144 106 := (congrFun pg_104 103).trans rfl
theorem q_104_103 {L : List Value} {x y : Int32} {S : List Value} {Z : gZ} {I : gI} {J : gJ} : g_at 104 103 L (.int y :: .int x :: S) Z I J = if y ≤ x then g_at 104 144 L S Z I J else g_at 104 106 L S Z I J := gq_cmp e_104_103 rfl
theorem e_104_106 : g_Pg 104 106 = ga_aload 0 107 := (congrFun pg_104 106).trans rfl
theorem q_104_106 {l1 l2 l3 : Value} {x : Nat} {S : List Value} {Z : gZ} {I : gI} {J : gJ} : g_at 104 106 [.ref x, l1, l2, l3] S Z I J = g_at 104 107 [.ref x, l1, l2, l3] (.ref x :: S) Z I J := gq_aload e_104_106 rfl
theorem e_104_107 : g_Pg 104 107 = ga_getR 7 18 110 := (congrFun pg_104 107).trans rfl
theorem q_104_107 {L : List Value} {a : Nat} {S : List Value} {Z : gZ} {I : gI} {J : gJ} (h : (gKd Z a).1 = 7) (h1 : gRs Z a 18 = true) : g_at 104 107 L (.ref a :: S) Z I J = g_at 104 110 L (.ref (gRq Z a 18) :: S) Z I J := gq_getR e_104_107 h h1
theorem e_104_110 : g_Pg 104 110 = ga_iload 3 111 := (congrFun pg_104 110).trans rfl
theorem q_104_110 {l0 l1 l2 : Value} {x : Int32} {S : List Value} {Z : gZ} {I : gI} {J : gJ} : g_at 104 110 [l0, l1, l2, .int x] S Z I J = g_at 104 111 [l0, l1, l2, .int x] (.int x :: S) Z I J := gq_iload e_104_110 rfl
theorem e_104_111 : g_Pg 104 111 = ga_aload 0 112 := (congrFun pg_104 111).trans rfl
theorem q_104_111 {l1 l2 l3 : Value} {x : Nat} {S : List Value} {Z : gZ} {I : gI} {J : gJ} : g_at 104 111 [.ref x, l1, l2, l3] S Z I J = g_at 104 112 [.ref x, l1, l2, l3] (.ref x :: S) Z I J := gq_aload e_104_111 rfl
theorem e_104_112 : g_Pg 104 112 = ga_getR 7 18 115 := (congrFun pg_104 112).trans rfl
theorem q_104_112 {L : List Value} {a : Nat} {S : List Value} {Z : gZ} {I : gI} {J : gJ} (h : (gKd Z a).1 = 7) (h1 : gRs Z a 18 = true) : g_at 104 112 L (.ref a :: S) Z I J = g_at 104 115 L (.ref (gRq Z a 18) :: S) Z I J := gq_getR e_104_112 h h1
theorem e_104_115 : g_Pg 104 115 = ga_iload 3 116 := (congrFun pg_104 115).trans rfl
theorem q_104_115 {l0 l1 l2 : Value} {x : Int32} {S : List Value} {Z : gZ} {I : gI} {J : gJ} : g_at 104 115 [l0, l1, l2, .int x] S Z I J = g_at 104 116 [l0, l1, l2, .int x] (.int x :: S) Z I J := gq_iload e_104_115 rfl
theorem e_104_116 : g_Pg 104 116 = ga_lald 117 := (congrFun pg_104 116).trans rfl
theorem q_104_116 {L : List Value} {a : Nat} {i : Int32} {S : List Value} {Z : gZ} {I : gI} {J : gJ} (h : (gKd Z a).1 = 10) (h0 : 0 ≤ i) (h1 : i.toNatClampNeg < (gKd Z a).2) : g_at 104 116 L (.int i :: .ref a :: S) Z I J = g_at 104 117 L (.long (J a i.toNatClampNeg) :: S) Z I J := gq_lald e_104_116 h h0 h1
theorem e_104_117 : g_Pg 104 117 = ga_iload 2 118 := (congrFun pg_104 117).trans rfl
theorem q_104_117 {l0 l1 l3 : Value} {x : Int32} {S : List Value} {Z : gZ} {I : gI} {J : gJ} : g_at 104 117 [l0, l1, .int x, l3] S Z I J = g_at 104 118 [l0, l1, .int x, l3] (.int x :: S) Z I J := gq_iload e_104_117 rfl
theorem e_104_118 : g_Pg 104 118 = ga_iload 3 119 := (congrFun pg_104 118).trans rfl
theorem q_104_118 {l0 l1 l2 : Value} {x : Int32} {S : List Value} {Z : gZ} {I : gI} {J : gJ} : g_at 104 118 [l0, l1, l2, .int x] S Z I J = g_at 104 119 [l0, l1, l2, .int x] (.int x :: S) Z I J := gq_iload e_104_118 rfl
theorem e_104_119 : g_Pg 104 119 = ga_call 84 2 122 := (congrFun pg_104 119).trans rfl
theorem q_104_119 {L : List Value} {a0 : Int32} {a1 : Int32} {r2 : Int64} {r3 : Int32} {r4 : Nat} {Z : gZ} {I : gI} {J : gJ} : g_at 104 119 L [.int a0, .int a1, .long r2, .int r3, .ref r4] Z I J = (g_at 84 0 [.int a1, .int a0] [] Z I J).bind (fun r => g_at 104 122 L (r.1.toList ++ [.long r2, .int r3, .ref r4]) r.2.1 r.2.2.1 r.2.2.2) := gq_call e_104_119 rfl rfl rfl rfl rfl
theorem e_104_122 : g_Pg 104 122 = ga_if (fun x => decide (x = 0)) 135 125 := (congrFun pg_104 122).trans rfl
theorem q_104_122 {L : List Value} {x : Int32} {S : List Value} {Z : gZ} {I : gI} {J : gJ} : g_at 104 122 L (.int x :: S) Z I J = if x = 0 then g_at 104 135 L S Z I J else g_at 104 125 L S Z I J := gq_if e_104_122 rfl
theorem e_104_125 : g_Pg 104 125 = ga_push (.long 1) 126 := (congrFun pg_104 125).trans rfl
theorem q_104_125 {L : List Value} {S : List Value} {Z : gZ} {I : gI} {J : gJ} : g_at 104 125 L S Z I J = g_at 104 126 L (.long 1 :: S) Z I J := gq_push e_104_125
theorem e_104_126 : g_Pg 104 126 = ga_aload 0 127 := (congrFun pg_104 126).trans rfl
theorem q_104_126 {l1 l2 l3 : Value} {x : Nat} {S : List Value} {Z : gZ} {I : gI} {J : gJ} : g_at 104 126 [.ref x, l1, l2, l3] S Z I J = g_at 104 127 [.ref x, l1, l2, l3] (.ref x :: S) Z I J := gq_aload e_104_126 rfl
theorem e_104_127 : g_Pg 104 127 = ga_iload 3 128 := (congrFun pg_104 127).trans rfl
theorem q_104_127 {l0 l1 l2 : Value} {x : Int32} {S : List Value} {Z : gZ} {I : gI} {J : gJ} : g_at 104 127 [l0, l1, l2, .int x] S Z I J = g_at 104 128 [l0, l1, l2, .int x] (.int x :: S) Z I J := gq_iload e_104_127 rfl
theorem e_104_128 : g_Pg 104 128 = ga_callV 7 100 1 131 := (congrFun pg_104 128).trans rfl
theorem q_104_128 {L : List Value} {a0 : Int32} {a1 : Nat} {r2 : Int64} {r3 : Int64} {r4 : Int32} {r5 : Nat} {Z : gZ} {I : gI} {J : gJ} (h : (gKd Z a1).1 = 7) : g_at 104 128 L [.int a0, .ref a1, .long r2, .long r3, .int r4, .ref r5] Z I J = (g_at 100 0 [.ref a1, .int a0] [] Z I J).bind (fun r => g_at 104 131 L (r.1.toList ++ [.long r2, .long r3, .int r4, .ref r5]) r.2.1 r.2.2.1 r.2.2.2) := gq_callV e_104_128 rfl rfl h rfl rfl rfl rfl rfl
theorem e_104_131 : g_Pg 104 131 = ga_lsh (fun x y => x <<< (y.toInt64 &&& 63)) 132 := (congrFun pg_104 131).trans rfl
theorem q_104_131 {L : List Value} {x : Int64} {y : Int32} {S : List Value} {Z : gZ} {I : gI} {J : gJ} : g_at 104 131 L (.int y :: .long x :: S) Z I J = g_at 104 132 L (.long (x <<< (y.toInt64 &&& 63)) :: S) Z I J := gq_lsh e_104_131
theorem e_104_132 : g_Pg 104 132 = ga_goto 136 := (congrFun pg_104 132).trans rfl
theorem q_104_132 {L : List Value} {S : List Value} {Z : gZ} {I : gI} {J : gJ} : g_at 104 132 L S Z I J = g_at 104 136 L S Z I J := gq_goto e_104_132
theorem e_104_135 : g_Pg 104 135 = ga_push (.long 0) 136 := (congrFun pg_104 135).trans rfl
theorem q_104_135 {L : List Value} {S : List Value} {Z : gZ} {I : gI} {J : gJ} : g_at 104 135 L S Z I J = g_at 104 136 L (.long 0 :: S) Z I J := gq_push e_104_135
theorem e_104_136 : g_Pg 104 136 = ga_lbin (fun x y => x ||| y) 137 := (congrFun pg_104 136).trans rfl
theorem q_104_136 {L : List Value} {x y : Int64} {S : List Value} {Z : gZ} {I : gI} {J : gJ} : g_at 104 136 L (.long y :: .long x :: S) Z I J = g_at 104 137 L (.long (x ||| y) :: S) Z I J := gq_lbin e_104_136
theorem e_104_137 : g_Pg 104 137 = ga_last 138 := (congrFun pg_104 137).trans rfl
theorem q_104_137 {L : List Value} {a : Nat} {i : Int32} {v : Int64} {S : List Value} {Z : gZ} {I : gI} {J : gJ} (h : (gKd Z a).1 = 10) (h0 : 0 ≤ i) (h1 : i.toNatClampNeg < (gKd Z a).2) : g_at 104 137 L (.long v :: .int i :: .ref a :: S) Z I J = g_at 104 138 L S Z I (va_up J a (va_up (J a) i.toNatClampNeg v)) := gq_last e_104_137 h h0 h1
theorem e_104_138 : g_Pg 104 138 = ga_iinc 3 1 141 := (congrFun pg_104 138).trans rfl
theorem q_104_138 {l0 l1 l2 : Value} {x : Int32} {S : List Value} {Z : gZ} {I : gI} {J : gJ} (h : gN1 l2 = true) : g_at 104 138 [l0, l1, l2, .int x] S Z I J = g_at 104 141 [l0, l1, l2, .int (x + 1)] S Z I J := gq_iinc e_104_138 rfl h rfl
theorem e_104_141 : g_Pg 104 141 = ga_goto 98 := (congrFun pg_104 141).trans rfl
theorem q_104_141 {L : List Value} {S : List Value} {Z : gZ} {I : gI} {J : gJ} : g_at 104 141 L S Z I J = g_at 104 98 L S Z I J := gq_goto e_104_141
theorem e_104_144 : g_Pg 104 144 = ga_iload 2 145 := (congrFun pg_104 144).trans rfl
theorem q_104_144 {l0 l1 l3 : Value} {x : Int32} {S : List Value} {Z : gZ} {I : gI} {J : gJ} : g_at 104 144 [l0, l1, .int x, l3] S Z I J = g_at 104 145 [l0, l1, .int x, l3] (.int x :: S) Z I J := gq_iload e_104_144 rfl
theorem e_104_145 : g_Pg 104 145 = ga_iret := (congrFun pg_104 145).trans rfl
theorem q_104_145 {L : List Value} {x : Int32} {Z : gZ} {I : gI} {J : gJ} : g_at 104 145 L [.int x] Z I J = some (some (.int x), Z, I, J) := gq_iret e_104_145
theorem e_105_0 : g_Pg 105 0 = ga_aload 0 1 := (congrFun pg_105 0).trans rfl
theorem q_105_0 {l1 : Value} {x : Nat} {S : List Value} {Z : gZ} {I : gI} {J : gJ} : g_at 105 0 [.ref x, l1] S Z I J = g_at 105 1 [.ref x, l1] (.ref x :: S) Z I J := gq_aload e_105_0 rfl
theorem e_105_1 : g_Pg 105 1 = ga_iload 1 2 := (congrFun pg_105 1).trans rfl
theorem q_105_1 {l0 : Value} {x : Int32} {S : List Value} {Z : gZ} {I : gI} {J : gJ} : g_at 105 1 [l0, .int x] S Z I J = g_at 105 2 [l0, .int x] (.int x :: S) Z I J := gq_iload e_105_1 rfl
theorem e_105_2 : g_Pg 105 2 = ga_callV 7 85 1 5 := (congrFun pg_105 2).trans rfl
theorem q_105_2 {L : List Value} {a0 : Int32} {a1 : Nat} {Z : gZ} {I : gI} {J : gJ} (h : (gKd Z a1).1 = 7) : g_at 105 2 L [.int a0, .ref a1] Z I J = (g_at 85 0 [.ref a1, .int a0] [] Z I J).bind (fun r => g_at 105 5 L (r.1.toList ++ []) r.2.1 r.2.2.1 r.2.2.2) := gq_callV e_105_2 rfl rfl h rfl rfl rfl rfl rfl
theorem e_105_5 : g_Pg 105 5 = ga_if (fun x => decide (x = 0)) 16 8 := (congrFun pg_105 5).trans rfl
theorem q_105_5 {L : List Value} {x : Int32} {S : List Value} {Z : gZ} {I : gI} {J : gJ} : g_at 105 5 L (.int x :: S) Z I J = if x = 0 then g_at 105 16 L S Z I J else g_at 105 8 L S Z I J := gq_if e_105_5 rfl
theorem e_105_8 : g_Pg 105 8 = ga_aload 0 9 := (congrFun pg_105 8).trans rfl
theorem q_105_8 {l1 : Value} {x : Nat} {S : List Value} {Z : gZ} {I : gI} {J : gJ} : g_at 105 8 [.ref x, l1] S Z I J = g_at 105 9 [.ref x, l1] (.ref x :: S) Z I J := gq_aload e_105_8 rfl
theorem e_105_9 : g_Pg 105 9 = ga_iload 1 10 := (congrFun pg_105 9).trans rfl
theorem q_105_9 {l0 : Value} {x : Int32} {S : List Value} {Z : gZ} {I : gI} {J : gJ} : g_at 105 9 [l0, .int x] S Z I J = g_at 105 10 [l0, .int x] (.int x :: S) Z I J := gq_iload e_105_9 rfl
theorem e_105_10 : g_Pg 105 10 = ga_callV 7 104 1 13 := (congrFun pg_105 10).trans rfl
theorem q_105_10 {L : List Value} {a0 : Int32} {a1 : Nat} {Z : gZ} {I : gI} {J : gJ} (h : (gKd Z a1).1 = 7) : g_at 105 10 L [.int a0, .ref a1] Z I J = (g_at 104 0 [.ref a1, .int a0, .null, .null] [] Z I J).bind (fun r => g_at 105 13 L (r.1.toList ++ []) r.2.1 r.2.2.1 r.2.2.2) := gq_callV e_105_10 rfl rfl h rfl rfl rfl rfl rfl
theorem e_105_13 : g_Pg 105 13 = ga_goto 18 := (congrFun pg_105 13).trans rfl
theorem q_105_13 {L : List Value} {S : List Value} {Z : gZ} {I : gI} {J : gJ} : g_at 105 13 L S Z I J = g_at 105 18 L S Z I J := gq_goto e_105_13
theorem e_105_16 : g_Pg 105 16 = ga_push (.int (-2)) 18 := (congrFun pg_105 16).trans rfl
theorem q_105_16 {L : List Value} {S : List Value} {Z : gZ} {I : gI} {J : gJ} : g_at 105 16 L S Z I J = g_at 105 18 L (.int (-2) :: S) Z I J := gq_push e_105_16
theorem e_105_18 : g_Pg 105 18 = ga_iret := (congrFun pg_105 18).trans rfl
theorem q_105_18 {L : List Value} {x : Int32} {Z : gZ} {I : gI} {J : gJ} : g_at 105 18 L [.int x] Z I J = some (some (.int x), Z, I, J) := gq_iret e_105_18
theorem e_106_0 : g_Pg 106 0 = ga_push (.int 0) 1 := (congrFun pg_106 0).trans rfl
theorem q_106_0 {L : List Value} {S : List Value} {Z : gZ} {I : gI} {J : gJ} : g_at 106 0 L S Z I J = g_at 106 1 L (.int 0 :: S) Z I J := gq_push e_106_0
theorem e_106_1 : g_Pg 106 1 = ga_istore 1 2 := (congrFun pg_106 1).trans rfl
theorem q_106_1 {l0 l1 l2 l3 : Value} {x : Int32} {S : List Value} {Z : gZ} {I : gI} {J : gJ} (h : gN1 l0 = true) : g_at 106 1 [l0, l1, l2, l3] (.int x :: S) Z I J = g_at 106 2 [l0, .int x, l2, l3] S Z I J := gq_istore e_106_1 h rfl rfl
theorem e_106_2 : g_Pg 106 2 = ga_aload 0 3 := (congrFun pg_106 2).trans rfl
theorem q_106_2 {l1 l2 l3 : Value} {x : Nat} {S : List Value} {Z : gZ} {I : gI} {J : gJ} : g_at 106 2 [.ref x, l1, l2, l3] S Z I J = g_at 106 3 [.ref x, l1, l2, l3] (.ref x :: S) Z I J := gq_aload e_106_2 rfl
theorem e_106_3 : g_Pg 106 3 = ga_dup 4 := (congrFun pg_106 3).trans rfl
theorem q_106_3 {L : List Value} {x : Nat} {S : List Value} {Z : gZ} {I : gI} {J : gJ} : g_at 106 3 L (.ref x :: S) Z I J = g_at 106 4 L (.ref x :: .ref x :: S) Z I J := gq_dup e_106_3
theorem e_106_4 : g_Pg 106 4 = ga_getI 7 21 7 := (congrFun pg_106 4).trans rfl
theorem q_106_4 {L : List Value} {a : Nat} {S : List Value} {Z : gZ} {I : gI} {J : gJ} (h : (gKd Z a).1 = 7) : g_at 106 4 L (.ref a :: S) Z I J = g_at 106 7 L (.int (I a 21) :: S) Z I J := gq_getI e_106_4 h
theorem e_106_7 : g_Pg 106 7 = ga_push (.int 1) 8 := (congrFun pg_106 7).trans rfl
theorem q_106_7 {L : List Value} {S : List Value} {Z : gZ} {I : gI} {J : gJ} : g_at 106 7 L S Z I J = g_at 106 8 L (.int 1 :: S) Z I J := gq_push e_106_7
theorem e_106_8 : g_Pg 106 8 = ga_bin (fun x y => x + y) 9 := (congrFun pg_106 8).trans rfl
theorem q_106_8 {L : List Value} {x y : Int32} {S : List Value} {Z : gZ} {I : gI} {J : gJ} : g_at 106 8 L (.int y :: .int x :: S) Z I J = g_at 106 9 L (.int (x + y) :: S) Z I J := gq_bin e_106_8
theorem e_106_9 : g_Pg 106 9 = ga_putI 7 21 12 := (congrFun pg_106 9).trans rfl
theorem q_106_9 {L : List Value} {a : Nat} {v : Int32} {S : List Value} {Z : gZ} {I : gI} {J : gJ} (h : (gKd Z a).1 = 7) : g_at 106 9 L (.int v :: .ref a :: S) Z I J = g_at 106 12 L S Z (va_up I a (va_up (I a) 21 v)) J := gq_putI e_106_9 h
theorem e_106_12 : g_Pg 106 12 = ga_push (.int 0) 13 := (congrFun pg_106 12).trans rfl
theorem q_106_12 {L : List Value} {S : List Value} {Z : gZ} {I : gI} {J : gJ} : g_at 106 12 L S Z I J = g_at 106 13 L (.int 0 :: S) Z I J := gq_push e_106_12
theorem e_106_13 : g_Pg 106 13 = ga_istore 2 14 := (congrFun pg_106 13).trans rfl
theorem q_106_13 {l0 l1 l2 l3 : Value} {x : Int32} {S : List Value} {Z : gZ} {I : gI} {J : gJ} (h : gN1 l1 = true) : g_at 106 13 [l0, l1, l2, l3] (.int x :: S) Z I J = g_at 106 14 [l0, l1, .int x, l3] S Z I J := gq_istore e_106_13 h rfl rfl
theorem e_106_14 : g_Pg 106 14 = ga_iload 2 15 := (congrFun pg_106 14).trans rfl
theorem q_106_14 {l0 l1 l3 : Value} {x : Int32} {S : List Value} {Z : gZ} {I : gI} {J : gJ} : g_at 106 14 [l0, l1, .int x, l3] S Z I J = g_at 106 15 [l0, l1, .int x, l3] (.int x :: S) Z I J := gq_iload e_106_14 rfl
theorem e_106_15 : g_Pg 106 15 = ga_aload 0 16 := (congrFun pg_106 15).trans rfl
theorem q_106_15 {l1 l2 l3 : Value} {x : Nat} {S : List Value} {Z : gZ} {I : gI} {J : gJ} : g_at 106 15 [.ref x, l1, l2, l3] S Z I J = g_at 106 16 [.ref x, l1, l2, l3] (.ref x :: S) Z I J := gq_aload e_106_15 rfl
theorem e_106_16 : g_Pg 106 16 = ga_getI 7 0 19 := (congrFun pg_106 16).trans rfl
theorem q_106_16 {L : List Value} {a : Nat} {S : List Value} {Z : gZ} {I : gI} {J : gJ} (h : (gKd Z a).1 = 7) : g_at 106 16 L (.ref a :: S) Z I J = g_at 106 19 L (.int (I a 0) :: S) Z I J := gq_getI e_106_16 h
theorem e_106_19 : g_Pg 106 19 = ga_cmp (fun x y => decide (y ≤ x)) 81 22 := (congrFun pg_106 19).trans rfl
theorem q_106_19 {L : List Value} {x y : Int32} {S : List Value} {Z : gZ} {I : gI} {J : gJ} : g_at 106 19 L (.int y :: .int x :: S) Z I J = if y ≤ x then g_at 106 81 L S Z I J else g_at 106 22 L S Z I J := gq_cmp e_106_19 rfl
theorem e_106_22 : g_Pg 106 22 = ga_aload 0 23 := (congrFun pg_106 22).trans rfl
theorem q_106_22 {l1 l2 l3 : Value} {x : Nat} {S : List Value} {Z : gZ} {I : gI} {J : gJ} : g_at 106 22 [.ref x, l1, l2, l3] S Z I J = g_at 106 23 [.ref x, l1, l2, l3] (.ref x :: S) Z I J := gq_aload e_106_22 rfl
theorem e_106_23 : g_Pg 106 23 = ga_getR 7 18 26 := (congrFun pg_106 23).trans rfl
theorem q_106_23 {L : List Value} {a : Nat} {S : List Value} {Z : gZ} {I : gI} {J : gJ} (h : (gKd Z a).1 = 7) (h1 : gRs Z a 18 = true) : g_at 106 23 L (.ref a :: S) Z I J = g_at 106 26 L (.ref (gRq Z a 18) :: S) Z I J := gq_getR e_106_23 h h1
theorem e_106_26 : g_Pg 106 26 = ga_iload 2 27 := (congrFun pg_106 26).trans rfl
theorem q_106_26 {l0 l1 l3 : Value} {x : Int32} {S : List Value} {Z : gZ} {I : gI} {J : gJ} : g_at 106 26 [l0, l1, .int x, l3] S Z I J = g_at 106 27 [l0, l1, .int x, l3] (.int x :: S) Z I J := gq_iload e_106_26 rfl
theorem e_106_27 : g_Pg 106 27 = ga_aload 0 28 := (congrFun pg_106 27).trans rfl
theorem q_106_27 {l1 l2 l3 : Value} {x : Nat} {S : List Value} {Z : gZ} {I : gI} {J : gJ} : g_at 106 27 [.ref x, l1, l2, l3] S Z I J = g_at 106 28 [.ref x, l1, l2, l3] (.ref x :: S) Z I J := gq_aload e_106_27 rfl
theorem e_106_28 : g_Pg 106 28 = ga_getR 7 18 31 := (congrFun pg_106 28).trans rfl
theorem q_106_28 {L : List Value} {a : Nat} {S : List Value} {Z : gZ} {I : gI} {J : gJ} (h : (gKd Z a).1 = 7) (h1 : gRs Z a 18 = true) : g_at 106 28 L (.ref a :: S) Z I J = g_at 106 31 L (.ref (gRq Z a 18) :: S) Z I J := gq_getR e_106_28 h h1
theorem e_106_31 : g_Pg 106 31 = ga_iload 2 32 := (congrFun pg_106 31).trans rfl
theorem q_106_31 {l0 l1 l3 : Value} {x : Int32} {S : List Value} {Z : gZ} {I : gI} {J : gJ} : g_at 106 31 [l0, l1, .int x, l3] S Z I J = g_at 106 32 [l0, l1, .int x, l3] (.int x :: S) Z I J := gq_iload e_106_31 rfl
theorem e_106_32 : g_Pg 106 32 = ga_lald 33 := (congrFun pg_106 32).trans rfl
theorem q_106_32 {L : List Value} {a : Nat} {i : Int32} {S : List Value} {Z : gZ} {I : gI} {J : gJ} (h : (gKd Z a).1 = 10) (h0 : 0 ≤ i) (h1 : i.toNatClampNeg < (gKd Z a).2) : g_at 106 32 L (.int i :: .ref a :: S) Z I J = g_at 106 33 L (.long (J a i.toNatClampNeg) :: S) Z I J := gq_lald e_106_32 h h0 h1
theorem e_106_33 : g_Pg 106 33 = ga_push (.int 1) 34 := (congrFun pg_106 33).trans rfl
theorem q_106_33 {L : List Value} {S : List Value} {Z : gZ} {I : gI} {J : gJ} : g_at 106 33 L S Z I J = g_at 106 34 L (.int 1 :: S) Z I J := gq_push e_106_33
theorem e_106_34 : g_Pg 106 34 = ga_lsh (fun x y => x >>> (y.toInt64 &&& 63)) 35 := (congrFun pg_106 34).trans rfl
theorem q_106_34 {L : List Value} {x : Int64} {y : Int32} {S : List Value} {Z : gZ} {I : gI} {J : gJ} : g_at 106 34 L (.int y :: .long x :: S) Z I J = g_at 106 35 L (.long (x >>> (y.toInt64 &&& 63)) :: S) Z I J := gq_lsh e_106_34
theorem e_106_35 : g_Pg 106 35 = ga_last 36 := (congrFun pg_106 35).trans rfl
theorem q_106_35 {L : List Value} {a : Nat} {i : Int32} {v : Int64} {S : List Value} {Z : gZ} {I : gI} {J : gJ} (h : (gKd Z a).1 = 10) (h0 : 0 ≤ i) (h1 : i.toNatClampNeg < (gKd Z a).2) : g_at 106 35 L (.long v :: .int i :: .ref a :: S) Z I J = g_at 106 36 L S Z I (va_up J a (va_up (J a) i.toNatClampNeg v)) := gq_last e_106_35 h h0 h1
theorem e_106_36 : g_Pg 106 36 = ga_iload 1 37 := (congrFun pg_106 36).trans rfl
theorem q_106_36 {l0 l2 l3 : Value} {x : Int32} {S : List Value} {Z : gZ} {I : gI} {J : gJ} : g_at 106 36 [l0, .int x, l2, l3] S Z I J = g_at 106 37 [l0, .int x, l2, l3] (.int x :: S) Z I J := gq_iload e_106_36 rfl
theorem e_106_37 : g_Pg 106 37 = ga_aload 0 38 := (congrFun pg_106 37).trans rfl
theorem q_106_37 {l1 l2 l3 : Value} {x : Nat} {S : List Value} {Z : gZ} {I : gI} {J : gJ} : g_at 106 37 [.ref x, l1, l2, l3] S Z I J = g_at 106 38 [.ref x, l1, l2, l3] (.ref x :: S) Z I J := gq_aload e_106_37 rfl
theorem e_106_38 : g_Pg 106 38 = ga_getR 7 18 41 := (congrFun pg_106 38).trans rfl
theorem q_106_38 {L : List Value} {a : Nat} {S : List Value} {Z : gZ} {I : gI} {J : gJ} (h : (gKd Z a).1 = 7) (h1 : gRs Z a 18 = true) : g_at 106 38 L (.ref a :: S) Z I J = g_at 106 41 L (.ref (gRq Z a 18) :: S) Z I J := gq_getR e_106_38 h h1
theorem e_106_41 : g_Pg 106 41 = ga_iload 2 42 := (congrFun pg_106 41).trans rfl
theorem q_106_41 {l0 l1 l3 : Value} {x : Int32} {S : List Value} {Z : gZ} {I : gI} {J : gJ} : g_at 106 41 [l0, l1, .int x, l3] S Z I J = g_at 106 42 [l0, l1, .int x, l3] (.int x :: S) Z I J := gq_iload e_106_41 rfl
theorem e_106_42 : g_Pg 106 42 = ga_lald 43 := (congrFun pg_106 42).trans rfl
theorem q_106_42 {L : List Value} {a : Nat} {i : Int32} {S : List Value} {Z : gZ} {I : gI} {J : gJ} (h : (gKd Z a).1 = 10) (h0 : 0 ≤ i) (h1 : i.toNatClampNeg < (gKd Z a).2) : g_at 106 42 L (.int i :: .ref a :: S) Z I J = g_at 106 43 L (.long (J a i.toNatClampNeg) :: S) Z I J := gq_lald e_106_42 h h0 h1
theorem e_106_43 : g_Pg 106 43 = ga_push (.long 1) 44 := (congrFun pg_106 43).trans rfl
theorem q_106_43 {L : List Value} {S : List Value} {Z : gZ} {I : gI} {J : gJ} : g_at 106 43 L S Z I J = g_at 106 44 L (.long 1 :: S) Z I J := gq_push e_106_43
theorem e_106_44 : g_Pg 106 44 = ga_lbin (fun x y => x &&& y) 45 := (congrFun pg_106 44).trans rfl
theorem q_106_44 {L : List Value} {x y : Int64} {S : List Value} {Z : gZ} {I : gI} {J : gJ} : g_at 106 44 L (.long y :: .long x :: S) Z I J = g_at 106 45 L (.long (x &&& y) :: S) Z I J := gq_lbin e_106_44
theorem e_106_45 : g_Pg 106 45 = ga_push (.long 1) 46 := (congrFun pg_106 45).trans rfl
theorem q_106_45 {L : List Value} {S : List Value} {Z : gZ} {I : gI} {J : gJ} : g_at 106 45 L S Z I J = g_at 106 46 L (.long 1 :: S) Z I J := gq_push e_106_45
theorem e_106_46 : g_Pg 106 46 = ga_lcmp 47 := (congrFun pg_106 46).trans rfl
theorem q_106_46 {L : List Value} {x y : Int64} {S : List Value} {Z : gZ} {I : gI} {J : gJ} : g_at 106 46 L (.long y :: .long x :: S) Z I J = g_at 106 47 L (.int (lg_cmp x y) :: S) Z I J := gq_lcmp e_106_46
theorem e_106_47 : g_Pg 106 47 = ga_if (fun x => decide (¬ x = 0)) 56 50 := (congrFun pg_106 47).trans rfl
theorem q_106_47 {L : List Value} {x : Int32} {S : List Value} {Z : gZ} {I : gI} {J : gJ} : g_at 106 47 L (.int x :: S) Z I J = if ¬ x = 0 then g_at 106 56 L S Z I J else g_at 106 50 L S Z I J := gq_if e_106_47 rfl
theorem e_106_50 : g_Pg 106 50 = ga_push (.int 1) 51 := (congrFun pg_106 50).trans rfl
theorem q_106_50 {L : List Value} {S : List Value} {Z : gZ} {I : gI} {J : gJ} : g_at 106 50 L S Z I J = g_at 106 51 L (.int 1 :: S) Z I J := gq_push e_106_50
theorem e_106_51 : g_Pg 106 51 = ga_iload 2 52 := (congrFun pg_106 51).trans rfl
theorem q_106_51 {l0 l1 l3 : Value} {x : Int32} {S : List Value} {Z : gZ} {I : gI} {J : gJ} : g_at 106 51 [l0, l1, .int x, l3] S Z I J = g_at 106 52 [l0, l1, .int x, l3] (.int x :: S) Z I J := gq_iload e_106_51 rfl
theorem e_106_52 : g_Pg 106 52 = ga_bin (fun x y => x <<< (y &&& 31)) 53 := (congrFun pg_106 52).trans rfl
theorem q_106_52 {L : List Value} {x y : Int32} {S : List Value} {Z : gZ} {I : gI} {J : gJ} : g_at 106 52 L (.int y :: .int x :: S) Z I J = g_at 106 53 L (.int (x <<< (y &&& 31)) :: S) Z I J := gq_bin e_106_52
theorem e_106_53 : g_Pg 106 53 = ga_goto 57 := (congrFun pg_106 53).trans rfl
theorem q_106_53 {L : List Value} {S : List Value} {Z : gZ} {I : gI} {J : gJ} : g_at 106 53 L S Z I J = g_at 106 57 L S Z I J := gq_goto e_106_53
theorem e_106_56 : g_Pg 106 56 = ga_push (.int 0) 57 := (congrFun pg_106 56).trans rfl
theorem q_106_56 {L : List Value} {S : List Value} {Z : gZ} {I : gI} {J : gJ} : g_at 106 56 L S Z I J = g_at 106 57 L (.int 0 :: S) Z I J := gq_push e_106_56
theorem e_106_57 : g_Pg 106 57 = ga_bin (fun x y => x ||| y) 58 := (congrFun pg_106 57).trans rfl
theorem q_106_57 {L : List Value} {x y : Int32} {S : List Value} {Z : gZ} {I : gI} {J : gJ} : g_at 106 57 L (.int y :: .int x :: S) Z I J = g_at 106 58 L (.int (x ||| y) :: S) Z I J := gq_bin e_106_57
theorem e_106_58 : g_Pg 106 58 = ga_istore 1 59 := (congrFun pg_106 58).trans rfl
theorem q_106_58 {l0 l1 l2 l3 : Value} {x : Int32} {S : List Value} {Z : gZ} {I : gI} {J : gJ} (h : gN1 l0 = true) : g_at 106 58 [l0, l1, l2, l3] (.int x :: S) Z I J = g_at 106 59 [l0, .int x, l2, l3] S Z I J := gq_istore e_106_58 h rfl rfl
theorem e_106_59 : g_Pg 106 59 = ga_aload 0 60 := (congrFun pg_106 59).trans rfl
theorem q_106_59 {l1 l2 l3 : Value} {x : Nat} {S : List Value} {Z : gZ} {I : gI} {J : gJ} : g_at 106 59 [.ref x, l1, l2, l3] S Z I J = g_at 106 60 [.ref x, l1, l2, l3] (.ref x :: S) Z I J := gq_aload e_106_59 rfl
theorem e_106_60 : g_Pg 106 60 = ga_getR 7 18 63 := (congrFun pg_106 60).trans rfl
theorem q_106_60 {L : List Value} {a : Nat} {S : List Value} {Z : gZ} {I : gI} {J : gJ} (h : (gKd Z a).1 = 7) (h1 : gRs Z a 18 = true) : g_at 106 60 L (.ref a :: S) Z I J = g_at 106 63 L (.ref (gRq Z a 18) :: S) Z I J := gq_getR e_106_60 h h1
theorem e_106_63 : g_Pg 106 63 = ga_iload 2 64 := (congrFun pg_106 63).trans rfl
theorem q_106_63 {l0 l1 l3 : Value} {x : Int32} {S : List Value} {Z : gZ} {I : gI} {J : gJ} : g_at 106 63 [l0, l1, .int x, l3] S Z I J = g_at 106 64 [l0, l1, .int x, l3] (.int x :: S) Z I J := gq_iload e_106_63 rfl
theorem e_106_64 : g_Pg 106 64 = ga_aload 0 65 := (congrFun pg_106 64).trans rfl
theorem q_106_64 {l1 l2 l3 : Value} {x : Nat} {S : List Value} {Z : gZ} {I : gI} {J : gJ} : g_at 106 64 [.ref x, l1, l2, l3] S Z I J = g_at 106 65 [.ref x, l1, l2, l3] (.ref x :: S) Z I J := gq_aload e_106_64 rfl
theorem e_106_65 : g_Pg 106 65 = ga_getR 7 18 68 := (congrFun pg_106 65).trans rfl
theorem q_106_65 {L : List Value} {a : Nat} {S : List Value} {Z : gZ} {I : gI} {J : gJ} (h : (gKd Z a).1 = 7) (h1 : gRs Z a 18 = true) : g_at 106 65 L (.ref a :: S) Z I J = g_at 106 68 L (.ref (gRq Z a 18) :: S) Z I J := gq_getR e_106_65 h h1
theorem e_106_68 : g_Pg 106 68 = ga_iload 2 69 := (congrFun pg_106 68).trans rfl
theorem q_106_68 {l0 l1 l3 : Value} {x : Int32} {S : List Value} {Z : gZ} {I : gI} {J : gJ} : g_at 106 68 [l0, l1, .int x, l3] S Z I J = g_at 106 69 [l0, l1, .int x, l3] (.int x :: S) Z I J := gq_iload e_106_68 rfl
theorem e_106_69 : g_Pg 106 69 = ga_lald 70 := (congrFun pg_106 69).trans rfl
theorem q_106_69 {L : List Value} {a : Nat} {i : Int32} {S : List Value} {Z : gZ} {I : gI} {J : gJ} (h : (gKd Z a).1 = 10) (h0 : 0 ≤ i) (h1 : i.toNatClampNeg < (gKd Z a).2) : g_at 106 69 L (.int i :: .ref a :: S) Z I J = g_at 106 70 L (.long (J a i.toNatClampNeg) :: S) Z I J := gq_lald e_106_69 h h0 h1
theorem e_106_70 : g_Pg 106 70 = ga_push (.long (-2)) 73 := (congrFun pg_106 70).trans rfl
theorem q_106_70 {L : List Value} {S : List Value} {Z : gZ} {I : gI} {J : gJ} : g_at 106 70 L S Z I J = g_at 106 73 L (.long (-2) :: S) Z I J := gq_push e_106_70
theorem e_106_73 : g_Pg 106 73 = ga_lbin (fun x y => x &&& y) 74 := (congrFun pg_106 73).trans rfl
theorem q_106_73 {L : List Value} {x y : Int64} {S : List Value} {Z : gZ} {I : gI} {J : gJ} : g_at 106 73 L (.long y :: .long x :: S) Z I J = g_at 106 74 L (.long (x &&& y) :: S) Z I J := gq_lbin e_106_73
theorem e_106_74 : g_Pg 106 74 = ga_last 75 := (congrFun pg_106 74).trans rfl
theorem q_106_74 {L : List Value} {a : Nat} {i : Int32} {v : Int64} {S : List Value} {Z : gZ} {I : gI} {J : gJ} (h : (gKd Z a).1 = 10) (h0 : 0 ≤ i) (h1 : i.toNatClampNeg < (gKd Z a).2) : g_at 106 74 L (.long v :: .int i :: .ref a :: S) Z I J = g_at 106 75 L S Z I (va_up J a (va_up (J a) i.toNatClampNeg v)) := gq_last e_106_74 h h0 h1
theorem e_106_75 : g_Pg 106 75 = ga_iinc 2 1 78 := (congrFun pg_106 75).trans rfl
theorem q_106_75 {l0 l1 l3 : Value} {x : Int32} {S : List Value} {Z : gZ} {I : gI} {J : gJ} (h : gN1 l1 = true) : g_at 106 75 [l0, l1, .int x, l3] S Z I J = g_at 106 78 [l0, l1, .int (x + 1), l3] S Z I J := gq_iinc e_106_75 rfl h rfl
theorem e_106_78 : g_Pg 106 78 = ga_goto 14 := (congrFun pg_106 78).trans rfl
theorem q_106_78 {L : List Value} {S : List Value} {Z : gZ} {I : gI} {J : gJ} : g_at 106 78 L S Z I J = g_at 106 14 L S Z I J := gq_goto e_106_78
theorem e_106_81 : g_Pg 106 81 = ga_push (.int 0) 82 := (congrFun pg_106 81).trans rfl
theorem q_106_81 {L : List Value} {S : List Value} {Z : gZ} {I : gI} {J : gJ} : g_at 106 81 L S Z I J = g_at 106 82 L (.int 0 :: S) Z I J := gq_push e_106_81
theorem e_106_82 : g_Pg 106 82 = ga_istore 2 83 := (congrFun pg_106 82).trans rfl
theorem q_106_82 {l0 l1 l2 l3 : Value} {x : Int32} {S : List Value} {Z : gZ} {I : gI} {J : gJ} (h : gN1 l1 = true) : g_at 106 82 [l0, l1, l2, l3] (.int x :: S) Z I J = g_at 106 83 [l0, l1, .int x, l3] S Z I J := gq_istore e_106_82 h rfl rfl
theorem e_106_83 : g_Pg 106 83 = ga_push (.int 0) 84 := (congrFun pg_106 83).trans rfl
theorem q_106_83 {L : List Value} {S : List Value} {Z : gZ} {I : gI} {J : gJ} : g_at 106 83 L S Z I J = g_at 106 84 L (.int 0 :: S) Z I J := gq_push e_106_83
theorem e_106_84 : g_Pg 106 84 = ga_istore 3 85 := (congrFun pg_106 84).trans rfl
theorem q_106_84 {l0 l1 l2 l3 : Value} {x : Int32} {S : List Value} {Z : gZ} {I : gI} {J : gJ} (h : gN1 l2 = true) : g_at 106 84 [l0, l1, l2, l3] (.int x :: S) Z I J = g_at 106 85 [l0, l1, l2, .int x] S Z I J := gq_istore e_106_84 h rfl rfl
theorem e_106_85 : g_Pg 106 85 = ga_iload 3 86 := (congrFun pg_106 85).trans rfl
theorem q_106_85 {l0 l1 l2 : Value} {x : Int32} {S : List Value} {Z : gZ} {I : gI} {J : gJ} : g_at 106 85 [l0, l1, l2, .int x] S Z I J = g_at 106 86 [l0, l1, l2, .int x] (.int x :: S) Z I J := gq_iload e_106_85 rfl
theorem e_106_86 : g_Pg 106 86 = ga_aload 0 87 := (congrFun pg_106 86).trans rfl
theorem q_106_86 {l1 l2 l3 : Value} {x : Nat} {S : List Value} {Z : gZ} {I : gI} {J : gJ} : g_at 106 86 [.ref x, l1, l2, l3] S Z I J = g_at 106 87 [.ref x, l1, l2, l3] (.ref x :: S) Z I J := gq_aload e_106_86 rfl
theorem e_106_87 : g_Pg 106 87 = ga_getI 7 0 90 := (congrFun pg_106 87).trans rfl
theorem q_106_87 {L : List Value} {a : Nat} {S : List Value} {Z : gZ} {I : gI} {J : gJ} (h : (gKd Z a).1 = 7) : g_at 106 87 L (.ref a :: S) Z I J = g_at 106 90 L (.int (I a 0) :: S) Z I J := gq_getI e_106_87 h
theorem e_106_90 : g_Pg 106 90 = ga_cmp (fun x y => decide (y ≤ x)) 116 93 := (congrFun pg_106 90).trans rfl
theorem q_106_90 {L : List Value} {x y : Int32} {S : List Value} {Z : gZ} {I : gI} {J : gJ} : g_at 106 90 L (.int y :: .int x :: S) Z I J = if y ≤ x then g_at 106 116 L S Z I J else g_at 106 93 L S Z I J := gq_cmp e_106_90 rfl
theorem e_106_93 : g_Pg 106 93 = ga_iload 1 94 := (congrFun pg_106 93).trans rfl
theorem q_106_93 {l0 l2 l3 : Value} {x : Int32} {S : List Value} {Z : gZ} {I : gI} {J : gJ} : g_at 106 93 [l0, .int x, l2, l3] S Z I J = g_at 106 94 [l0, .int x, l2, l3] (.int x :: S) Z I J := gq_iload e_106_93 rfl
theorem e_106_94 : g_Pg 106 94 = ga_iload 3 95 := (congrFun pg_106 94).trans rfl
theorem q_106_94 {l0 l1 l2 : Value} {x : Int32} {S : List Value} {Z : gZ} {I : gI} {J : gJ} : g_at 106 94 [l0, l1, l2, .int x] S Z I J = g_at 106 95 [l0, l1, l2, .int x] (.int x :: S) Z I J := gq_iload e_106_94 rfl
theorem e_106_95 : g_Pg 106 95 = ga_call 84 2 98 := (congrFun pg_106 95).trans rfl
theorem q_106_95 {L : List Value} {a0 : Int32} {a1 : Int32} {Z : gZ} {I : gI} {J : gJ} : g_at 106 95 L [.int a0, .int a1] Z I J = (g_at 84 0 [.int a1, .int a0] [] Z I J).bind (fun r => g_at 106 98 L (r.1.toList ++ []) r.2.1 r.2.2.1 r.2.2.2) := gq_call e_106_95 rfl rfl rfl rfl rfl
theorem e_106_98 : g_Pg 106 98 = ga_if (fun x => decide (x = 0)) 110 101 := (congrFun pg_106 98).trans rfl
theorem q_106_98 {L : List Value} {x : Int32} {S : List Value} {Z : gZ} {I : gI} {J : gJ} : g_at 106 98 L (.int x :: S) Z I J = if x = 0 then g_at 106 110 L S Z I J else g_at 106 101 L S Z I J := gq_if e_106_98 rfl
theorem e_106_101 : g_Pg 106 101 = ga_aload 0 102 := (congrFun pg_106 101).trans rfl
theorem q_106_101 {l1 l2 l3 : Value} {x : Nat} {S : List Value} {Z : gZ} {I : gI} {J : gJ} : g_at 106 101 [.ref x, l1, l2, l3] S Z I J = g_at 106 102 [.ref x, l1, l2, l3] (.ref x :: S) Z I J := gq_aload e_106_101 rfl
theorem e_106_102 : g_Pg 106 102 = ga_iload 3 103 := (congrFun pg_106 102).trans rfl
theorem q_106_102 {l0 l1 l2 : Value} {x : Int32} {S : List Value} {Z : gZ} {I : gI} {J : gJ} : g_at 106 102 [l0, l1, l2, .int x] S Z I J = g_at 106 103 [l0, l1, l2, .int x] (.int x :: S) Z I J := gq_iload e_106_102 rfl
theorem e_106_103 : g_Pg 106 103 = ga_callV 7 104 1 106 := (congrFun pg_106 103).trans rfl
theorem q_106_103 {L : List Value} {a0 : Int32} {a1 : Nat} {Z : gZ} {I : gI} {J : gJ} (h : (gKd Z a1).1 = 7) : g_at 106 103 L [.int a0, .ref a1] Z I J = (g_at 104 0 [.ref a1, .int a0, .null, .null] [] Z I J).bind (fun r => g_at 106 106 L (r.1.toList ++ []) r.2.1 r.2.2.1 r.2.2.2) := gq_callV e_106_103 rfl rfl h rfl rfl rfl rfl rfl
theorem e_106_106 : g_Pg 106 106 = ga_pop 107 := (congrFun pg_106 106).trans rfl
theorem q_106_106 {L : List Value} {x : Int32} {S : List Value} {Z : gZ} {I : gI} {J : gJ} : g_at 106 106 L (.int x :: S) Z I J = g_at 106 107 L S Z I J := gq_pop e_106_106
theorem e_106_107 : g_Pg 106 107 = ga_iinc 2 1 110 := (congrFun pg_106 107).trans rfl
theorem q_106_107 {l0 l1 l3 : Value} {x : Int32} {S : List Value} {Z : gZ} {I : gI} {J : gJ} (h : gN1 l1 = true) : g_at 106 107 [l0, l1, .int x, l3] S Z I J = g_at 106 110 [l0, l1, .int (x + 1), l3] S Z I J := gq_iinc e_106_107 rfl h rfl
theorem e_106_110 : g_Pg 106 110 = ga_iinc 3 1 113 := (congrFun pg_106 110).trans rfl
theorem q_106_110 {l0 l1 l2 : Value} {x : Int32} {S : List Value} {Z : gZ} {I : gI} {J : gJ} (h : gN1 l2 = true) : g_at 106 110 [l0, l1, l2, .int x] S Z I J = g_at 106 113 [l0, l1, l2, .int (x + 1)] S Z I J := gq_iinc e_106_110 rfl h rfl
theorem e_106_113 : g_Pg 106 113 = ga_goto 85 := (congrFun pg_106 113).trans rfl
theorem q_106_113 {L : List Value} {S : List Value} {Z : gZ} {I : gI} {J : gJ} : g_at 106 113 L S Z I J = g_at 106 85 L S Z I J := gq_goto e_106_113
theorem e_106_116 : g_Pg 106 116 = ga_iload 2 117 := (congrFun pg_106 116).trans rfl
theorem q_106_116 {l0 l1 l3 : Value} {x : Int32} {S : List Value} {Z : gZ} {I : gI} {J : gJ} : g_at 106 116 [l0, l1, .int x, l3] S Z I J = g_at 106 117 [l0, l1, .int x, l3] (.int x :: S) Z I J := gq_iload e_106_116 rfl
theorem e_106_117 : g_Pg 106 117 = ga_iret := (congrFun pg_106 117).trans rfl
theorem q_106_117 {L : List Value} {x : Int32} {Z : gZ} {I : gI} {J : gJ} : g_at 106 117 L [.int x] Z I J = some (some (.int x), Z, I, J) := gq_iret e_106_117
theorem e_107_0 : g_Pg 107 0 = ga_iload 1 1 := (congrFun pg_107 0).trans rfl
theorem q_107_0 {l0 l2 l3 : Value} {x : Int32} {S : List Value} {Z : gZ} {I : gI} {J : gJ} : g_at 107 0 [l0, .int x, l2, l3] S Z I J = g_at 107 1 [l0, .int x, l2, l3] (.int x :: S) Z I J := gq_iload e_107_0 rfl
theorem e_107_1 : g_Pg 107 1 = ga_push (.int 1) 2 := (congrFun pg_107 1).trans rfl
theorem q_107_1 {L : List Value} {S : List Value} {Z : gZ} {I : gI} {J : gJ} : g_at 107 1 L S Z I J = g_at 107 2 L (.int 1 :: S) Z I J := gq_push e_107_1
theorem e_107_2 : g_Pg 107 2 = ga_push (.int 99) 4 := (congrFun pg_107 2).trans rfl
theorem q_107_2 {L : List Value} {S : List Value} {Z : gZ} {I : gI} {J : gJ} : g_at 107 2 L S Z I J = g_at 107 4 L (.int 99 :: S) Z I J := gq_push e_107_2
theorem e_107_4 : g_Pg 107 4 = ga_call 83 3 7 := (congrFun pg_107 4).trans rfl
theorem q_107_4 {L : List Value} {a0 : Int32} {a1 : Int32} {a2 : Int32} {Z : gZ} {I : gI} {J : gJ} : g_at 107 4 L [.int a0, .int a1, .int a2] Z I J = (g_at 83 0 [.int a2, .int a1, .int a0] [] Z I J).bind (fun r => g_at 107 7 L (r.1.toList ++ []) r.2.1 r.2.2.1 r.2.2.2) := gq_call e_107_4 rfl rfl rfl rfl rfl
theorem e_107_7 : g_Pg 107 7 = ga_if (fun x => decide (¬ x = 0)) 13 10 := (congrFun pg_107 7).trans rfl
theorem q_107_7 {L : List Value} {x : Int32} {S : List Value} {Z : gZ} {I : gI} {J : gJ} : g_at 107 7 L (.int x :: S) Z I J = if ¬ x = 0 then g_at 107 13 L S Z I J else g_at 107 10 L S Z I J := gq_if e_107_7 rfl
theorem e_107_10 : g_Pg 107 10 = ga_push (.int (-3)) 12 := (congrFun pg_107 10).trans rfl
theorem q_107_10 {L : List Value} {S : List Value} {Z : gZ} {I : gI} {J : gJ} : g_at 107 10 L S Z I J = g_at 107 12 L (.int (-3) :: S) Z I J := gq_push e_107_10
theorem e_107_12 : g_Pg 107 12 = ga_iret := (congrFun pg_107 12).trans rfl
theorem q_107_12 {L : List Value} {x : Int32} {Z : gZ} {I : gI} {J : gJ} : g_at 107 12 L [.int x] Z I J = some (some (.int x), Z, I, J) := gq_iret e_107_12
theorem e_107_13 : g_Pg 107 13 = ga_aload 0 14 := (congrFun pg_107 13).trans rfl
theorem q_107_13 {l1 l2 l3 : Value} {x : Nat} {S : List Value} {Z : gZ} {I : gI} {J : gJ} : g_at 107 13 [.ref x, l1, l2, l3] S Z I J = g_at 107 14 [.ref x, l1, l2, l3] (.ref x :: S) Z I J := gq_aload e_107_13 rfl
theorem e_107_14 : g_Pg 107 14 = ga_getI 7 21 17 := (congrFun pg_107 14).trans rfl
theorem q_107_14 {L : List Value} {a : Nat} {S : List Value} {Z : gZ} {I : gI} {J : gJ} (h : (gKd Z a).1 = 7) : g_at 107 14 L (.ref a :: S) Z I J = g_at 107 17 L (.int (I a 21) :: S) Z I J := gq_getI e_107_14 h
theorem e_107_17 : g_Pg 107 17 = ga_iload 1 18 := (congrFun pg_107 17).trans rfl
theorem q_107_17 {l0 l2 l3 : Value} {x : Int32} {S : List Value} {Z : gZ} {I : gI} {J : gJ} : g_at 107 17 [l0, .int x, l2, l3] S Z I J = g_at 107 18 [l0, .int x, l2, l3] (.int x :: S) Z I J := gq_iload e_107_17 rfl
theorem e_107_18 : g_Pg 107 18 = ga_bin (fun x y => x + y) 19 := (congrFun pg_107 18).trans rfl
theorem q_107_18 {L : List Value} {x y : Int32} {S : List Value} {Z : gZ} {I : gI} {J : gJ} : g_at 107 18 L (.int y :: .int x :: S) Z I J = g_at 107 19 L (.int (x + y) :: S) Z I J := gq_bin e_107_18
theorem e_107_19 : g_Pg 107 19 = ga_push (.int 99999) 21 := (congrFun pg_107 19).trans rfl
theorem q_107_19 {L : List Value} {S : List Value} {Z : gZ} {I : gI} {J : gJ} : g_at 107 19 L S Z I J = g_at 107 21 L (.int 99999 :: S) Z I J := gq_push e_107_19
theorem e_107_21 : g_Pg 107 21 = ga_cmp (fun x y => decide (x ≤ y)) 27 24 := (congrFun pg_107 21).trans rfl
theorem q_107_21 {L : List Value} {x y : Int32} {S : List Value} {Z : gZ} {I : gI} {J : gJ} : g_at 107 21 L (.int y :: .int x :: S) Z I J = if x ≤ y then g_at 107 27 L S Z I J else g_at 107 24 L S Z I J := gq_cmp e_107_21 rfl
theorem e_107_24 : g_Pg 107 24 = ga_push (.int (-5)) 26 := (congrFun pg_107 24).trans rfl
theorem q_107_24 {L : List Value} {S : List Value} {Z : gZ} {I : gI} {J : gJ} : g_at 107 24 L S Z I J = g_at 107 26 L (.int (-5) :: S) Z I J := gq_push e_107_24
theorem e_107_26 : g_Pg 107 26 = ga_iret := (congrFun pg_107 26).trans rfl
theorem q_107_26 {L : List Value} {x : Int32} {Z : gZ} {I : gI} {J : gJ} : g_at 107 26 L [.int x] Z I J = some (some (.int x), Z, I, J) := gq_iret e_107_26
theorem e_107_27 : g_Pg 107 27 = ga_push (.int 0) 28 := (congrFun pg_107 27).trans rfl
theorem q_107_27 {L : List Value} {S : List Value} {Z : gZ} {I : gI} {J : gJ} : g_at 107 27 L S Z I J = g_at 107 28 L (.int 0 :: S) Z I J := gq_push e_107_27
theorem e_107_28 : g_Pg 107 28 = ga_istore 2 29 := (congrFun pg_107 28).trans rfl
theorem q_107_28 {l0 l1 l2 l3 : Value} {x : Int32} {S : List Value} {Z : gZ} {I : gI} {J : gJ} (h : gN1 l1 = true) : g_at 107 28 [l0, l1, l2, l3] (.int x :: S) Z I J = g_at 107 29 [l0, l1, .int x, l3] S Z I J := gq_istore e_107_28 h rfl rfl
theorem e_107_29 : g_Pg 107 29 = ga_push (.int 0) 30 := (congrFun pg_107 29).trans rfl
theorem q_107_29 {L : List Value} {S : List Value} {Z : gZ} {I : gI} {J : gJ} : g_at 107 29 L S Z I J = g_at 107 30 L (.int 0 :: S) Z I J := gq_push e_107_29
theorem e_107_30 : g_Pg 107 30 = ga_istore 3 31 := (congrFun pg_107 30).trans rfl
theorem q_107_30 {l0 l1 l2 l3 : Value} {x : Int32} {S : List Value} {Z : gZ} {I : gI} {J : gJ} (h : gN1 l2 = true) : g_at 107 30 [l0, l1, l2, l3] (.int x :: S) Z I J = g_at 107 31 [l0, l1, l2, .int x] S Z I J := gq_istore e_107_30 h rfl rfl
theorem e_107_31 : g_Pg 107 31 = ga_iload 3 32 := (congrFun pg_107 31).trans rfl
theorem q_107_31 {l0 l1 l2 : Value} {x : Int32} {S : List Value} {Z : gZ} {I : gI} {J : gJ} : g_at 107 31 [l0, l1, l2, .int x] S Z I J = g_at 107 32 [l0, l1, l2, .int x] (.int x :: S) Z I J := gq_iload e_107_31 rfl
theorem e_107_32 : g_Pg 107 32 = ga_iload 1 33 := (congrFun pg_107 32).trans rfl
theorem q_107_32 {l0 l2 l3 : Value} {x : Int32} {S : List Value} {Z : gZ} {I : gI} {J : gJ} : g_at 107 32 [l0, .int x, l2, l3] S Z I J = g_at 107 33 [l0, .int x, l2, l3] (.int x :: S) Z I J := gq_iload e_107_32 rfl
theorem e_107_33 : g_Pg 107 33 = ga_cmp (fun x y => decide (y ≤ x)) 49 36 := (congrFun pg_107 33).trans rfl
theorem q_107_33 {L : List Value} {x y : Int32} {S : List Value} {Z : gZ} {I : gI} {J : gJ} : g_at 107 33 L (.int y :: .int x :: S) Z I J = if y ≤ x then g_at 107 49 L S Z I J else g_at 107 36 L S Z I J := gq_cmp e_107_33 rfl
theorem e_107_36 : g_Pg 107 36 = ga_iload 2 37 := (congrFun pg_107 36).trans rfl
theorem q_107_36 {l0 l1 l3 : Value} {x : Int32} {S : List Value} {Z : gZ} {I : gI} {J : gJ} : g_at 107 36 [l0, l1, .int x, l3] S Z I J = g_at 107 37 [l0, l1, .int x, l3] (.int x :: S) Z I J := gq_iload e_107_36 rfl
theorem e_107_37 : g_Pg 107 37 = ga_aload 0 38 := (congrFun pg_107 37).trans rfl
theorem q_107_37 {l1 l2 l3 : Value} {x : Nat} {S : List Value} {Z : gZ} {I : gI} {J : gJ} : g_at 107 37 [.ref x, l1, l2, l3] S Z I J = g_at 107 38 [.ref x, l1, l2, l3] (.ref x :: S) Z I J := gq_aload e_107_37 rfl
theorem e_107_38 : g_Pg 107 38 = ga_callV 7 106 0 41 := (congrFun pg_107 38).trans rfl
theorem q_107_38 {L : List Value} {a0 : Nat} {r1 : Int32} {Z : gZ} {I : gI} {J : gJ} (h : (gKd Z a0).1 = 7) : g_at 107 38 L [.ref a0, .int r1] Z I J = (g_at 106 0 [.ref a0, .null, .null, .null] [] Z I J).bind (fun r => g_at 107 41 L (r.1.toList ++ [.int r1]) r.2.1 r.2.2.1 r.2.2.2) := gq_callV e_107_38 rfl rfl h rfl rfl rfl rfl rfl
theorem e_107_41 : g_Pg 107 41 = ga_bin (fun x y => x + y) 42 := (congrFun pg_107 41).trans rfl
theorem q_107_41 {L : List Value} {x y : Int32} {S : List Value} {Z : gZ} {I : gI} {J : gJ} : g_at 107 41 L (.int y :: .int x :: S) Z I J = g_at 107 42 L (.int (x + y) :: S) Z I J := gq_bin e_107_41
theorem e_107_42 : g_Pg 107 42 = ga_istore 2 43 := (congrFun pg_107 42).trans rfl
theorem q_107_42 {l0 l1 l2 l3 : Value} {x : Int32} {S : List Value} {Z : gZ} {I : gI} {J : gJ} (h : gN1 l1 = true) : g_at 107 42 [l0, l1, l2, l3] (.int x :: S) Z I J = g_at 107 43 [l0, l1, .int x, l3] S Z I J := gq_istore e_107_42 h rfl rfl
theorem e_107_43 : g_Pg 107 43 = ga_iinc 3 1 46 := (congrFun pg_107 43).trans rfl
theorem q_107_43 {l0 l1 l2 : Value} {x : Int32} {S : List Value} {Z : gZ} {I : gI} {J : gJ} (h : gN1 l2 = true) : g_at 107 43 [l0, l1, l2, .int x] S Z I J = g_at 107 46 [l0, l1, l2, .int (x + 1)] S Z I J := gq_iinc e_107_43 rfl h rfl
theorem e_107_46 : g_Pg 107 46 = ga_goto 31 := (congrFun pg_107 46).trans rfl
theorem q_107_46 {L : List Value} {S : List Value} {Z : gZ} {I : gI} {J : gJ} : g_at 107 46 L S Z I J = g_at 107 31 L S Z I J := gq_goto e_107_46
theorem e_107_49 : g_Pg 107 49 = ga_iload 2 50 := (congrFun pg_107 49).trans rfl
theorem q_107_49 {l0 l1 l3 : Value} {x : Int32} {S : List Value} {Z : gZ} {I : gI} {J : gJ} : g_at 107 49 [l0, l1, .int x, l3] S Z I J = g_at 107 50 [l0, l1, .int x, l3] (.int x :: S) Z I J := gq_iload e_107_49 rfl
theorem e_107_50 : g_Pg 107 50 = ga_iret := (congrFun pg_107 50).trans rfl
theorem q_107_50 {L : List Value} {x : Int32} {Z : gZ} {I : gI} {J : gJ} : g_at 107 50 L [.int x] Z I J = some (some (.int x), Z, I, J) := gq_iret e_107_50
theorem e_108_0 : g_Pg 108 0 = ga_iload 1 1 := (congrFun pg_108 0).trans rfl
theorem q_108_0 {l0 l2 : Value} {x : Int32} {S : List Value} {Z : gZ} {I : gI} {J : gJ} : g_at 108 0 [l0, .int x, l2] S Z I J = g_at 108 1 [l0, .int x, l2] (.int x :: S) Z I J := gq_iload e_108_0 rfl
theorem e_108_1 : g_Pg 108 1 = ga_push (.int 0) 2 := (congrFun pg_108 1).trans rfl
theorem q_108_1 {L : List Value} {S : List Value} {Z : gZ} {I : gI} {J : gJ} : g_at 108 1 L S Z I J = g_at 108 2 L (.int 0 :: S) Z I J := gq_push e_108_1
theorem e_108_2 : g_Pg 108 2 = ga_push (.int 2) 3 := (congrFun pg_108 2).trans rfl
theorem q_108_2 {L : List Value} {S : List Value} {Z : gZ} {I : gI} {J : gJ} : g_at 108 2 L S Z I J = g_at 108 3 L (.int 2 :: S) Z I J := gq_push e_108_2
theorem e_108_3 : g_Pg 108 3 = ga_call 83 3 6 := (congrFun pg_108 3).trans rfl
theorem q_108_3 {L : List Value} {a0 : Int32} {a1 : Int32} {a2 : Int32} {Z : gZ} {I : gI} {J : gJ} : g_at 108 3 L [.int a0, .int a1, .int a2] Z I J = (g_at 83 0 [.int a2, .int a1, .int a0] [] Z I J).bind (fun r => g_at 108 6 L (r.1.toList ++ []) r.2.1 r.2.2.1 r.2.2.2) := gq_call e_108_3 rfl rfl rfl rfl rfl
theorem e_108_6 : g_Pg 108 6 = ga_if (fun x => decide (¬ x = 0)) 12 9 := (congrFun pg_108 6).trans rfl
theorem q_108_6 {L : List Value} {x : Int32} {S : List Value} {Z : gZ} {I : gI} {J : gJ} : g_at 108 6 L (.int x :: S) Z I J = if ¬ x = 0 then g_at 108 12 L S Z I J else g_at 108 9 L S Z I J := gq_if e_108_6 rfl
theorem e_108_9 : g_Pg 108 9 = ga_push (.int (-3)) 11 := (congrFun pg_108 9).trans rfl
theorem q_108_9 {L : List Value} {S : List Value} {Z : gZ} {I : gI} {J : gJ} : g_at 108 9 L S Z I J = g_at 108 11 L (.int (-3) :: S) Z I J := gq_push e_108_9
theorem e_108_11 : g_Pg 108 11 = ga_iret := (congrFun pg_108 11).trans rfl
theorem q_108_11 {L : List Value} {x : Int32} {Z : gZ} {I : gI} {J : gJ} : g_at 108 11 L [.int x] Z I J = some (some (.int x), Z, I, J) := gq_iret e_108_11
theorem e_108_12 : g_Pg 108 12 = ga_aload 0 13 := (congrFun pg_108 12).trans rfl
theorem q_108_12 {l1 l2 : Value} {x : Nat} {S : List Value} {Z : gZ} {I : gI} {J : gJ} : g_at 108 12 [.ref x, l1, l2] S Z I J = g_at 108 13 [.ref x, l1, l2] (.ref x :: S) Z I J := gq_aload e_108_12 rfl
theorem e_108_13 : g_Pg 108 13 = ga_getI 7 5 16 := (congrFun pg_108 13).trans rfl
theorem q_108_13 {L : List Value} {a : Nat} {S : List Value} {Z : gZ} {I : gI} {J : gJ} (h : (gKd Z a).1 = 7) : g_at 108 13 L (.ref a :: S) Z I J = g_at 108 16 L (.int (I a 5) :: S) Z I J := gq_getI e_108_13 h
theorem e_108_16 : g_Pg 108 16 = ga_istore 2 17 := (congrFun pg_108 16).trans rfl
theorem q_108_16 {l0 l1 l2 : Value} {x : Int32} {S : List Value} {Z : gZ} {I : gI} {J : gJ} (h : gN1 l1 = true) : g_at 108 16 [l0, l1, l2] (.int x :: S) Z I J = g_at 108 17 [l0, l1, .int x] S Z I J := gq_istore e_108_16 h rfl rfl
theorem e_108_17 : g_Pg 108 17 = ga_aload 0 18 := (congrFun pg_108 17).trans rfl
theorem q_108_17 {l1 l2 : Value} {x : Nat} {S : List Value} {Z : gZ} {I : gI} {J : gJ} : g_at 108 17 [.ref x, l1, l2] S Z I J = g_at 108 18 [.ref x, l1, l2] (.ref x :: S) Z I J := gq_aload e_108_17 rfl
theorem e_108_18 : g_Pg 108 18 = ga_iload 1 19 := (congrFun pg_108 18).trans rfl
theorem q_108_18 {l0 l2 : Value} {x : Int32} {S : List Value} {Z : gZ} {I : gI} {J : gJ} : g_at 108 18 [l0, .int x, l2] S Z I J = g_at 108 19 [l0, .int x, l2] (.int x :: S) Z I J := gq_iload e_108_18 rfl
theorem e_108_19 : g_Pg 108 19 = ga_putI 7 5 22 := (congrFun pg_108 19).trans rfl
theorem q_108_19 {L : List Value} {a : Nat} {v : Int32} {S : List Value} {Z : gZ} {I : gI} {J : gJ} (h : (gKd Z a).1 = 7) : g_at 108 19 L (.int v :: .ref a :: S) Z I J = g_at 108 22 L S Z (va_up I a (va_up (I a) 5 v)) J := gq_putI e_108_19 h
theorem e_108_22 : g_Pg 108 22 = ga_iload 2 23 := (congrFun pg_108 22).trans rfl
theorem q_108_22 {l0 l1 : Value} {x : Int32} {S : List Value} {Z : gZ} {I : gI} {J : gJ} : g_at 108 22 [l0, l1, .int x] S Z I J = g_at 108 23 [l0, l1, .int x] (.int x :: S) Z I J := gq_iload e_108_22 rfl
theorem e_108_23 : g_Pg 108 23 = ga_iret := (congrFun pg_108 23).trans rfl
theorem q_108_23 {L : List Value} {x : Int32} {Z : gZ} {I : gI} {J : gJ} : g_at 108 23 L [.int x] Z I J = some (some (.int x), Z, I, J) := gq_iret e_108_23
theorem e_109_0 : g_Pg 109 0 = ga_iload 1 1 := (congrFun pg_109 0).trans rfl
theorem q_109_0 {l0 l2 : Value} {x : Int32} {S : List Value} {Z : gZ} {I : gI} {J : gJ} : g_at 109 0 [l0, .int x, l2] S Z I J = g_at 109 1 [l0, .int x, l2] (.int x :: S) Z I J := gq_iload e_109_0 rfl
theorem e_109_1 : g_Pg 109 1 = ga_push (.int 0) 2 := (congrFun pg_109 1).trans rfl
theorem q_109_1 {L : List Value} {S : List Value} {Z : gZ} {I : gI} {J : gJ} : g_at 109 1 L S Z I J = g_at 109 2 L (.int 0 :: S) Z I J := gq_push e_109_1
theorem e_109_2 : g_Pg 109 2 = ga_push (.int 1) 3 := (congrFun pg_109 2).trans rfl
theorem q_109_2 {L : List Value} {S : List Value} {Z : gZ} {I : gI} {J : gJ} : g_at 109 2 L S Z I J = g_at 109 3 L (.int 1 :: S) Z I J := gq_push e_109_2
theorem e_109_3 : g_Pg 109 3 = ga_call 83 3 6 := (congrFun pg_109 3).trans rfl
theorem q_109_3 {L : List Value} {a0 : Int32} {a1 : Int32} {a2 : Int32} {Z : gZ} {I : gI} {J : gJ} : g_at 109 3 L [.int a0, .int a1, .int a2] Z I J = (g_at 83 0 [.int a2, .int a1, .int a0] [] Z I J).bind (fun r => g_at 109 6 L (r.1.toList ++ []) r.2.1 r.2.2.1 r.2.2.2) := gq_call e_109_3 rfl rfl rfl rfl rfl
theorem e_109_6 : g_Pg 109 6 = ga_if (fun x => decide (¬ x = 0)) 12 9 := (congrFun pg_109 6).trans rfl
theorem q_109_6 {L : List Value} {x : Int32} {S : List Value} {Z : gZ} {I : gI} {J : gJ} : g_at 109 6 L (.int x :: S) Z I J = if ¬ x = 0 then g_at 109 12 L S Z I J else g_at 109 9 L S Z I J := gq_if e_109_6 rfl
theorem e_109_9 : g_Pg 109 9 = ga_push (.int (-2)) 11 := (congrFun pg_109 9).trans rfl
theorem q_109_9 {L : List Value} {S : List Value} {Z : gZ} {I : gI} {J : gJ} : g_at 109 9 L S Z I J = g_at 109 11 L (.int (-2) :: S) Z I J := gq_push e_109_9
theorem e_109_11 : g_Pg 109 11 = ga_iret := (congrFun pg_109 11).trans rfl
theorem q_109_11 {L : List Value} {x : Int32} {Z : gZ} {I : gI} {J : gJ} : g_at 109 11 L [.int x] Z I J = some (some (.int x), Z, I, J) := gq_iret e_109_11
theorem e_109_12 : g_Pg 109 12 = ga_push (.int 0) 13 := (congrFun pg_109 12).trans rfl
theorem q_109_12 {L : List Value} {S : List Value} {Z : gZ} {I : gI} {J : gJ} : g_at 109 12 L S Z I J = g_at 109 13 L (.int 0 :: S) Z I J := gq_push e_109_12
theorem e_109_13 : g_Pg 109 13 = ga_istore 2 14 := (congrFun pg_109 13).trans rfl
theorem q_109_13 {l0 l1 l2 : Value} {x : Int32} {S : List Value} {Z : gZ} {I : gI} {J : gJ} (h : gN1 l1 = true) : g_at 109 13 [l0, l1, l2] (.int x :: S) Z I J = g_at 109 14 [l0, l1, .int x] S Z I J := gq_istore e_109_13 h rfl rfl
theorem e_109_14 : g_Pg 109 14 = ga_iload 2 15 := (congrFun pg_109 14).trans rfl
theorem q_109_14 {l0 l1 : Value} {x : Int32} {S : List Value} {Z : gZ} {I : gI} {J : gJ} : g_at 109 14 [l0, l1, .int x] S Z I J = g_at 109 15 [l0, l1, .int x] (.int x :: S) Z I J := gq_iload e_109_14 rfl
theorem e_109_15 : g_Pg 109 15 = ga_push (.int 10) 17 := (congrFun pg_109 15).trans rfl
theorem q_109_15 {L : List Value} {S : List Value} {Z : gZ} {I : gI} {J : gJ} : g_at 109 15 L S Z I J = g_at 109 17 L (.int 10 :: S) Z I J := gq_push e_109_15
theorem e_109_17 : g_Pg 109 17 = ga_cmp (fun x y => decide (y ≤ x)) 64 20 := (congrFun pg_109 17).trans rfl
theorem q_109_17 {L : List Value} {x y : Int32} {S : List Value} {Z : gZ} {I : gI} {J : gJ} : g_at 109 17 L (.int y :: .int x :: S) Z I J = if y ≤ x then g_at 109 64 L S Z I J else g_at 109 20 L S Z I J := gq_cmp e_109_17 rfl
theorem e_109_20 : g_Pg 109 20 = ga_aload 0 21 := (congrFun pg_109 20).trans rfl
theorem q_109_20 {l1 l2 : Value} {x : Nat} {S : List Value} {Z : gZ} {I : gI} {J : gJ} : g_at 109 20 [.ref x, l1, l2] S Z I J = g_at 109 21 [.ref x, l1, l2] (.ref x :: S) Z I J := gq_aload e_109_20 rfl
theorem e_109_21 : g_Pg 109 21 = ga_getR 7 22 24 := (congrFun pg_109 21).trans rfl
theorem q_109_21 {L : List Value} {a : Nat} {S : List Value} {Z : gZ} {I : gI} {J : gJ} (h : (gKd Z a).1 = 7) (h1 : gRs Z a 22 = true) : g_at 109 21 L (.ref a :: S) Z I J = g_at 109 24 L (.ref (gRq Z a 22) :: S) Z I J := gq_getR e_109_21 h h1
theorem e_109_24 : g_Pg 109 24 = ga_push (.int 23) 26 := (congrFun pg_109 24).trans rfl
theorem q_109_24 {L : List Value} {S : List Value} {Z : gZ} {I : gI} {J : gJ} : g_at 109 24 L S Z I J = g_at 109 26 L (.int 23 :: S) Z I J := gq_push e_109_24
theorem e_109_26 : g_Pg 109 26 = ga_iload 1 27 := (congrFun pg_109 26).trans rfl
theorem q_109_26 {l0 l2 : Value} {x : Int32} {S : List Value} {Z : gZ} {I : gI} {J : gJ} : g_at 109 26 [l0, .int x, l2] S Z I J = g_at 109 27 [l0, .int x, l2] (.int x :: S) Z I J := gq_iload e_109_26 rfl
theorem e_109_27 : g_Pg 109 27 = ga_bin (fun x y => x * y) 28 := (congrFun pg_109 27).trans rfl
theorem q_109_27 {L : List Value} {x y : Int32} {S : List Value} {Z : gZ} {I : gI} {J : gJ} : g_at 109 27 L (.int y :: .int x :: S) Z I J = g_at 109 28 L (.int (x * y) :: S) Z I J := gq_bin e_109_27
theorem e_109_28 : g_Pg 109 28 = ga_iload 2 29 := (congrFun pg_109 28).trans rfl
theorem q_109_28 {l0 l1 : Value} {x : Int32} {S : List Value} {Z : gZ} {I : gI} {J : gJ} : g_at 109 28 [l0, l1, .int x] S Z I J = g_at 109 29 [l0, l1, .int x] (.int x :: S) Z I J := gq_iload e_109_28 rfl
theorem e_109_29 : g_Pg 109 29 = ga_bin (fun x y => x + y) 30 := (congrFun pg_109 29).trans rfl
theorem q_109_29 {L : List Value} {x y : Int32} {S : List Value} {Z : gZ} {I : gI} {J : gJ} : g_at 109 29 L (.int y :: .int x :: S) Z I J = g_at 109 30 L (.int (x + y) :: S) Z I J := gq_bin e_109_29
theorem e_109_30 : g_Pg 109 30 = ga_aload 0 31 := (congrFun pg_109 30).trans rfl
theorem q_109_30 {l1 l2 : Value} {x : Nat} {S : List Value} {Z : gZ} {I : gI} {J : gJ} : g_at 109 30 [.ref x, l1, l2] S Z I J = g_at 109 31 [.ref x, l1, l2] (.ref x :: S) Z I J := gq_aload e_109_30 rfl
theorem e_109_31 : g_Pg 109 31 = ga_getR 7 18 34 := (congrFun pg_109 31).trans rfl
theorem q_109_31 {L : List Value} {a : Nat} {S : List Value} {Z : gZ} {I : gI} {J : gJ} (h : (gKd Z a).1 = 7) (h1 : gRs Z a 18 = true) : g_at 109 31 L (.ref a :: S) Z I J = g_at 109 34 L (.ref (gRq Z a 18) :: S) Z I J := gq_getR e_109_31 h h1
theorem e_109_34 : g_Pg 109 34 = ga_iload 2 35 := (congrFun pg_109 34).trans rfl
theorem q_109_34 {l0 l1 : Value} {x : Int32} {S : List Value} {Z : gZ} {I : gI} {J : gJ} : g_at 109 34 [l0, l1, .int x] S Z I J = g_at 109 35 [l0, l1, .int x] (.int x :: S) Z I J := gq_iload e_109_34 rfl
theorem e_109_35 : g_Pg 109 35 = ga_lald 36 := (congrFun pg_109 35).trans rfl
theorem q_109_35 {L : List Value} {a : Nat} {i : Int32} {S : List Value} {Z : gZ} {I : gI} {J : gJ} (h : (gKd Z a).1 = 10) (h0 : 0 ≤ i) (h1 : i.toNatClampNeg < (gKd Z a).2) : g_at 109 35 L (.int i :: .ref a :: S) Z I J = g_at 109 36 L (.long (J a i.toNatClampNeg) :: S) Z I J := gq_lald e_109_35 h h0 h1
theorem e_109_36 : g_Pg 109 36 = ga_last 37 := (congrFun pg_109 36).trans rfl
theorem q_109_36 {L : List Value} {a : Nat} {i : Int32} {v : Int64} {S : List Value} {Z : gZ} {I : gI} {J : gJ} (h : (gKd Z a).1 = 10) (h0 : 0 ≤ i) (h1 : i.toNatClampNeg < (gKd Z a).2) : g_at 109 36 L (.long v :: .int i :: .ref a :: S) Z I J = g_at 109 37 L S Z I (va_up J a (va_up (J a) i.toNatClampNeg v)) := gq_last e_109_36 h h0 h1
theorem e_109_37 : g_Pg 109 37 = ga_aload 0 38 := (congrFun pg_109 37).trans rfl
theorem q_109_37 {l1 l2 : Value} {x : Nat} {S : List Value} {Z : gZ} {I : gI} {J : gJ} : g_at 109 37 [.ref x, l1, l2] S Z I J = g_at 109 38 [.ref x, l1, l2] (.ref x :: S) Z I J := gq_aload e_109_37 rfl
theorem e_109_38 : g_Pg 109 38 = ga_getR 7 22 41 := (congrFun pg_109 38).trans rfl
theorem q_109_38 {L : List Value} {a : Nat} {S : List Value} {Z : gZ} {I : gI} {J : gJ} (h : (gKd Z a).1 = 7) (h1 : gRs Z a 22 = true) : g_at 109 38 L (.ref a :: S) Z I J = g_at 109 41 L (.ref (gRq Z a 22) :: S) Z I J := gq_getR e_109_38 h h1
theorem e_109_41 : g_Pg 109 41 = ga_push (.int 23) 43 := (congrFun pg_109 41).trans rfl
theorem q_109_41 {L : List Value} {S : List Value} {Z : gZ} {I : gI} {J : gJ} : g_at 109 41 L S Z I J = g_at 109 43 L (.int 23 :: S) Z I J := gq_push e_109_41
theorem e_109_43 : g_Pg 109 43 = ga_iload 1 44 := (congrFun pg_109 43).trans rfl
theorem q_109_43 {l0 l2 : Value} {x : Int32} {S : List Value} {Z : gZ} {I : gI} {J : gJ} : g_at 109 43 [l0, .int x, l2] S Z I J = g_at 109 44 [l0, .int x, l2] (.int x :: S) Z I J := gq_iload e_109_43 rfl
theorem e_109_44 : g_Pg 109 44 = ga_bin (fun x y => x * y) 45 := (congrFun pg_109 44).trans rfl
theorem q_109_44 {L : List Value} {x y : Int32} {S : List Value} {Z : gZ} {I : gI} {J : gJ} : g_at 109 44 L (.int y :: .int x :: S) Z I J = g_at 109 45 L (.int (x * y) :: S) Z I J := gq_bin e_109_44
theorem e_109_45 : g_Pg 109 45 = ga_push (.int 10) 47 := (congrFun pg_109 45).trans rfl
theorem q_109_45 {L : List Value} {S : List Value} {Z : gZ} {I : gI} {J : gJ} : g_at 109 45 L S Z I J = g_at 109 47 L (.int 10 :: S) Z I J := gq_push e_109_45
theorem e_109_47 : g_Pg 109 47 = ga_bin (fun x y => x + y) 48 := (congrFun pg_109 47).trans rfl
theorem q_109_47 {L : List Value} {x y : Int32} {S : List Value} {Z : gZ} {I : gI} {J : gJ} : g_at 109 47 L (.int y :: .int x :: S) Z I J = g_at 109 48 L (.int (x + y) :: S) Z I J := gq_bin e_109_47
theorem e_109_48 : g_Pg 109 48 = ga_iload 2 49 := (congrFun pg_109 48).trans rfl
theorem q_109_48 {l0 l1 : Value} {x : Int32} {S : List Value} {Z : gZ} {I : gI} {J : gJ} : g_at 109 48 [l0, l1, .int x] S Z I J = g_at 109 49 [l0, l1, .int x] (.int x :: S) Z I J := gq_iload e_109_48 rfl
theorem e_109_49 : g_Pg 109 49 = ga_bin (fun x y => x + y) 50 := (congrFun pg_109 49).trans rfl
theorem q_109_49 {L : List Value} {x y : Int32} {S : List Value} {Z : gZ} {I : gI} {J : gJ} : g_at 109 49 L (.int y :: .int x :: S) Z I J = g_at 109 50 L (.int (x + y) :: S) Z I J := gq_bin e_109_49
theorem e_109_50 : g_Pg 109 50 = ga_aload 0 51 := (congrFun pg_109 50).trans rfl
theorem q_109_50 {l1 l2 : Value} {x : Nat} {S : List Value} {Z : gZ} {I : gI} {J : gJ} : g_at 109 50 [.ref x, l1, l2] S Z I J = g_at 109 51 [.ref x, l1, l2] (.ref x :: S) Z I J := gq_aload e_109_50 rfl
theorem e_109_51 : g_Pg 109 51 = ga_getR 7 19 54 := (congrFun pg_109 51).trans rfl
theorem q_109_51 {L : List Value} {a : Nat} {S : List Value} {Z : gZ} {I : gI} {J : gJ} (h : (gKd Z a).1 = 7) (h1 : gRs Z a 19 = true) : g_at 109 51 L (.ref a :: S) Z I J = g_at 109 54 L (.ref (gRq Z a 19) :: S) Z I J := gq_getR e_109_51 h h1
theorem e_109_54 : g_Pg 109 54 = ga_iload 2 55 := (congrFun pg_109 54).trans rfl
theorem q_109_54 {l0 l1 : Value} {x : Int32} {S : List Value} {Z : gZ} {I : gI} {J : gJ} : g_at 109 54 [l0, l1, .int x] S Z I J = g_at 109 55 [l0, l1, .int x] (.int x :: S) Z I J := gq_iload e_109_54 rfl
theorem e_109_55 : g_Pg 109 55 = ga_iald 56 := (congrFun pg_109 55).trans rfl
theorem q_109_55 {L : List Value} {a : Nat} {i : Int32} {S : List Value} {Z : gZ} {I : gI} {J : gJ} (h : gTg8 (gKd Z a).1 a = true) (h0 : 0 ≤ i) (h1 : i.toNatClampNeg < (gKd Z a).2) : g_at 109 55 L (.int i :: .ref a :: S) Z I J = g_at 109 56 L (.int (I a i.toNatClampNeg) :: S) Z I J := gq_iald e_109_55 h h0 h1
theorem e_109_56 : g_Pg 109 56 = ga_i2l 57 := (congrFun pg_109 56).trans rfl
theorem q_109_56 {L : List Value} {x : Int32} {S : List Value} {Z : gZ} {I : gI} {J : gJ} : g_at 109 56 L (.int x :: S) Z I J = g_at 109 57 L (.long x.toInt64 :: S) Z I J := gq_i2l e_109_56
theorem e_109_57 : g_Pg 109 57 = ga_last 58 := (congrFun pg_109 57).trans rfl
theorem q_109_57 {L : List Value} {a : Nat} {i : Int32} {v : Int64} {S : List Value} {Z : gZ} {I : gI} {J : gJ} (h : (gKd Z a).1 = 10) (h0 : 0 ≤ i) (h1 : i.toNatClampNeg < (gKd Z a).2) : g_at 109 57 L (.long v :: .int i :: .ref a :: S) Z I J = g_at 109 58 L S Z I (va_up J a (va_up (J a) i.toNatClampNeg v)) := gq_last e_109_57 h h0 h1
theorem e_109_58 : g_Pg 109 58 = ga_iinc 2 1 61 := (congrFun pg_109 58).trans rfl
theorem q_109_58 {l0 l1 : Value} {x : Int32} {S : List Value} {Z : gZ} {I : gI} {J : gJ} (h : gN1 l1 = true) : g_at 109 58 [l0, l1, .int x] S Z I J = g_at 109 61 [l0, l1, .int (x + 1)] S Z I J := gq_iinc e_109_58 rfl h rfl
theorem e_109_61 : g_Pg 109 61 = ga_goto 14 := (congrFun pg_109 61).trans rfl
theorem q_109_61 {L : List Value} {S : List Value} {Z : gZ} {I : gI} {J : gJ} : g_at 109 61 L S Z I J = g_at 109 14 L S Z I J := gq_goto e_109_61
theorem e_109_64 : g_Pg 109 64 = ga_aload 0 65 := (congrFun pg_109 64).trans rfl
theorem q_109_64 {l1 l2 : Value} {x : Nat} {S : List Value} {Z : gZ} {I : gI} {J : gJ} : g_at 109 64 [.ref x, l1, l2] S Z I J = g_at 109 65 [.ref x, l1, l2] (.ref x :: S) Z I J := gq_aload e_109_64 rfl
theorem e_109_65 : g_Pg 109 65 = ga_getR 7 22 68 := (congrFun pg_109 65).trans rfl
theorem q_109_65 {L : List Value} {a : Nat} {S : List Value} {Z : gZ} {I : gI} {J : gJ} (h : (gKd Z a).1 = 7) (h1 : gRs Z a 22 = true) : g_at 109 65 L (.ref a :: S) Z I J = g_at 109 68 L (.ref (gRq Z a 22) :: S) Z I J := gq_getR e_109_65 h h1
theorem e_109_68 : g_Pg 109 68 = ga_push (.int 23) 70 := (congrFun pg_109 68).trans rfl
theorem q_109_68 {L : List Value} {S : List Value} {Z : gZ} {I : gI} {J : gJ} : g_at 109 68 L S Z I J = g_at 109 70 L (.int 23 :: S) Z I J := gq_push e_109_68
theorem e_109_70 : g_Pg 109 70 = ga_iload 1 71 := (congrFun pg_109 70).trans rfl
theorem q_109_70 {l0 l2 : Value} {x : Int32} {S : List Value} {Z : gZ} {I : gI} {J : gJ} : g_at 109 70 [l0, .int x, l2] S Z I J = g_at 109 71 [l0, .int x, l2] (.int x :: S) Z I J := gq_iload e_109_70 rfl
theorem e_109_71 : g_Pg 109 71 = ga_bin (fun x y => x * y) 72 := (congrFun pg_109 71).trans rfl
theorem q_109_71 {L : List Value} {x y : Int32} {S : List Value} {Z : gZ} {I : gI} {J : gJ} : g_at 109 71 L (.int y :: .int x :: S) Z I J = g_at 109 72 L (.int (x * y) :: S) Z I J := gq_bin e_109_71
theorem e_109_72 : g_Pg 109 72 = ga_push (.int 20) 74 := (congrFun pg_109 72).trans rfl
theorem q_109_72 {L : List Value} {S : List Value} {Z : gZ} {I : gI} {J : gJ} : g_at 109 72 L S Z I J = g_at 109 74 L (.int 20 :: S) Z I J := gq_push e_109_72
theorem e_109_74 : g_Pg 109 74 = ga_bin (fun x y => x + y) 75 := (congrFun pg_109 74).trans rfl
theorem q_109_74 {L : List Value} {x y : Int32} {S : List Value} {Z : gZ} {I : gI} {J : gJ} : g_at 109 74 L (.int y :: .int x :: S) Z I J = g_at 109 75 L (.int (x + y) :: S) Z I J := gq_bin e_109_74
theorem e_109_75 : g_Pg 109 75 = ga_aload 0 76 := (congrFun pg_109 75).trans rfl
theorem q_109_75 {l1 l2 : Value} {x : Nat} {S : List Value} {Z : gZ} {I : gI} {J : gJ} : g_at 109 75 [.ref x, l1, l2] S Z I J = g_at 109 76 [.ref x, l1, l2] (.ref x :: S) Z I J := gq_aload e_109_75 rfl
theorem e_109_76 : g_Pg 109 76 = ga_getI 7 20 79 := (congrFun pg_109 76).trans rfl
theorem q_109_76 {L : List Value} {a : Nat} {S : List Value} {Z : gZ} {I : gI} {J : gJ} (h : (gKd Z a).1 = 7) : g_at 109 76 L (.ref a :: S) Z I J = g_at 109 79 L (.int (I a 20) :: S) Z I J := gq_getI e_109_76 h
theorem e_109_79 : g_Pg 109 79 = ga_i2l 80 := (congrFun pg_109 79).trans rfl
theorem q_109_79 {L : List Value} {x : Int32} {S : List Value} {Z : gZ} {I : gI} {J : gJ} : g_at 109 79 L (.int x :: S) Z I J = g_at 109 80 L (.long x.toInt64 :: S) Z I J := gq_i2l e_109_79
theorem e_109_80 : g_Pg 109 80 = ga_last 81 := (congrFun pg_109 80).trans rfl
theorem q_109_80 {L : List Value} {a : Nat} {i : Int32} {v : Int64} {S : List Value} {Z : gZ} {I : gI} {J : gJ} (h : (gKd Z a).1 = 10) (h0 : 0 ≤ i) (h1 : i.toNatClampNeg < (gKd Z a).2) : g_at 109 80 L (.long v :: .int i :: .ref a :: S) Z I J = g_at 109 81 L S Z I (va_up J a (va_up (J a) i.toNatClampNeg v)) := gq_last e_109_80 h h0 h1
theorem e_109_81 : g_Pg 109 81 = ga_aload 0 82 := (congrFun pg_109 81).trans rfl
theorem q_109_81 {l1 l2 : Value} {x : Nat} {S : List Value} {Z : gZ} {I : gI} {J : gJ} : g_at 109 81 [.ref x, l1, l2] S Z I J = g_at 109 82 [.ref x, l1, l2] (.ref x :: S) Z I J := gq_aload e_109_81 rfl
theorem e_109_82 : g_Pg 109 82 = ga_getR 7 22 85 := (congrFun pg_109 82).trans rfl
theorem q_109_82 {L : List Value} {a : Nat} {S : List Value} {Z : gZ} {I : gI} {J : gJ} (h : (gKd Z a).1 = 7) (h1 : gRs Z a 22 = true) : g_at 109 82 L (.ref a :: S) Z I J = g_at 109 85 L (.ref (gRq Z a 22) :: S) Z I J := gq_getR e_109_82 h h1
theorem e_109_85 : g_Pg 109 85 = ga_push (.int 23) 87 := (congrFun pg_109 85).trans rfl
theorem q_109_85 {L : List Value} {S : List Value} {Z : gZ} {I : gI} {J : gJ} : g_at 109 85 L S Z I J = g_at 109 87 L (.int 23 :: S) Z I J := gq_push e_109_85
theorem e_109_87 : g_Pg 109 87 = ga_iload 1 88 := (congrFun pg_109 87).trans rfl
theorem q_109_87 {l0 l2 : Value} {x : Int32} {S : List Value} {Z : gZ} {I : gI} {J : gJ} : g_at 109 87 [l0, .int x, l2] S Z I J = g_at 109 88 [l0, .int x, l2] (.int x :: S) Z I J := gq_iload e_109_87 rfl
theorem e_109_88 : g_Pg 109 88 = ga_bin (fun x y => x * y) 89 := (congrFun pg_109 88).trans rfl
theorem q_109_88 {L : List Value} {x y : Int32} {S : List Value} {Z : gZ} {I : gI} {J : gJ} : g_at 109 88 L (.int y :: .int x :: S) Z I J = g_at 109 89 L (.int (x * y) :: S) Z I J := gq_bin e_109_88
theorem e_109_89 : g_Pg 109 89 = ga_push (.int 21) 91 := (congrFun pg_109 89).trans rfl
theorem q_109_89 {L : List Value} {S : List Value} {Z : gZ} {I : gI} {J : gJ} : g_at 109 89 L S Z I J = g_at 109 91 L (.int 21 :: S) Z I J := gq_push e_109_89
theorem e_109_91 : g_Pg 109 91 = ga_bin (fun x y => x + y) 92 := (congrFun pg_109 91).trans rfl
theorem q_109_91 {L : List Value} {x y : Int32} {S : List Value} {Z : gZ} {I : gI} {J : gJ} : g_at 109 91 L (.int y :: .int x :: S) Z I J = g_at 109 92 L (.int (x + y) :: S) Z I J := gq_bin e_109_91
theorem e_109_92 : g_Pg 109 92 = ga_aload 0 93 := (congrFun pg_109 92).trans rfl
theorem q_109_92 {l1 l2 : Value} {x : Nat} {S : List Value} {Z : gZ} {I : gI} {J : gJ} : g_at 109 92 [.ref x, l1, l2] S Z I J = g_at 109 93 [.ref x, l1, l2] (.ref x :: S) Z I J := gq_aload e_109_92 rfl
theorem e_109_93 : g_Pg 109 93 = ga_getI 7 21 96 := (congrFun pg_109 93).trans rfl
theorem q_109_93 {L : List Value} {a : Nat} {S : List Value} {Z : gZ} {I : gI} {J : gJ} (h : (gKd Z a).1 = 7) : g_at 109 93 L (.ref a :: S) Z I J = g_at 109 96 L (.int (I a 21) :: S) Z I J := gq_getI e_109_93 h
theorem e_109_96 : g_Pg 109 96 = ga_i2l 97 := (congrFun pg_109 96).trans rfl
theorem q_109_96 {L : List Value} {x : Int32} {S : List Value} {Z : gZ} {I : gI} {J : gJ} : g_at 109 96 L (.int x :: S) Z I J = g_at 109 97 L (.long x.toInt64 :: S) Z I J := gq_i2l e_109_96
theorem e_109_97 : g_Pg 109 97 = ga_last 98 := (congrFun pg_109 97).trans rfl
theorem q_109_97 {L : List Value} {a : Nat} {i : Int32} {v : Int64} {S : List Value} {Z : gZ} {I : gI} {J : gJ} (h : (gKd Z a).1 = 10) (h0 : 0 ≤ i) (h1 : i.toNatClampNeg < (gKd Z a).2) : g_at 109 97 L (.long v :: .int i :: .ref a :: S) Z I J = g_at 109 98 L S Z I (va_up J a (va_up (J a) i.toNatClampNeg v)) := gq_last e_109_97 h h0 h1
theorem e_109_98 : g_Pg 109 98 = ga_aload 0 99 := (congrFun pg_109 98).trans rfl
theorem q_109_98 {l1 l2 : Value} {x : Nat} {S : List Value} {Z : gZ} {I : gI} {J : gJ} : g_at 109 98 [.ref x, l1, l2] S Z I J = g_at 109 99 [.ref x, l1, l2] (.ref x :: S) Z I J := gq_aload e_109_98 rfl
theorem e_109_99 : g_Pg 109 99 = ga_getR 7 22 102 := (congrFun pg_109 99).trans rfl
theorem q_109_99 {L : List Value} {a : Nat} {S : List Value} {Z : gZ} {I : gI} {J : gJ} (h : (gKd Z a).1 = 7) (h1 : gRs Z a 22 = true) : g_at 109 99 L (.ref a :: S) Z I J = g_at 109 102 L (.ref (gRq Z a 22) :: S) Z I J := gq_getR e_109_99 h h1
theorem e_109_102 : g_Pg 109 102 = ga_push (.int 23) 104 := (congrFun pg_109 102).trans rfl
theorem q_109_102 {L : List Value} {S : List Value} {Z : gZ} {I : gI} {J : gJ} : g_at 109 102 L S Z I J = g_at 109 104 L (.int 23 :: S) Z I J := gq_push e_109_102
theorem e_109_104 : g_Pg 109 104 = ga_iload 1 105 := (congrFun pg_109 104).trans rfl
theorem q_109_104 {l0 l2 : Value} {x : Int32} {S : List Value} {Z : gZ} {I : gI} {J : gJ} : g_at 109 104 [l0, .int x, l2] S Z I J = g_at 109 105 [l0, .int x, l2] (.int x :: S) Z I J := gq_iload e_109_104 rfl
theorem e_109_105 : g_Pg 109 105 = ga_bin (fun x y => x * y) 106 := (congrFun pg_109 105).trans rfl
theorem q_109_105 {L : List Value} {x y : Int32} {S : List Value} {Z : gZ} {I : gI} {J : gJ} : g_at 109 105 L (.int y :: .int x :: S) Z I J = g_at 109 106 L (.int (x * y) :: S) Z I J := gq_bin e_109_105
theorem e_109_106 : g_Pg 109 106 = ga_push (.int 22) 108 := (congrFun pg_109 106).trans rfl
theorem q_109_106 {L : List Value} {S : List Value} {Z : gZ} {I : gI} {J : gJ} : g_at 109 106 L S Z I J = g_at 109 108 L (.int 22 :: S) Z I J := gq_push e_109_106
theorem e_109_108 : g_Pg 109 108 = ga_bin (fun x y => x + y) 109 := (congrFun pg_109 108).trans rfl
theorem q_109_108 {L : List Value} {x y : Int32} {S : List Value} {Z : gZ} {I : gI} {J : gJ} : g_at 109 108 L (.int y :: .int x :: S) Z I J = g_at 109 109 L (.int (x + y) :: S) Z I J := gq_bin e_109_108
theorem e_109_109 : g_Pg 109 109 = ga_aload 0 110 := (congrFun pg_109 109).trans rfl
theorem q_109_109 {l1 l2 : Value} {x : Nat} {S : List Value} {Z : gZ} {I : gI} {J : gJ} : g_at 109 109 [.ref x, l1, l2] S Z I J = g_at 109 110 [.ref x, l1, l2] (.ref x :: S) Z I J := gq_aload e_109_109 rfl
theorem e_109_110 : g_Pg 109 110 = ga_getI 7 5 113 := (congrFun pg_109 110).trans rfl
theorem q_109_110 {L : List Value} {a : Nat} {S : List Value} {Z : gZ} {I : gI} {J : gJ} (h : (gKd Z a).1 = 7) : g_at 109 110 L (.ref a :: S) Z I J = g_at 109 113 L (.int (I a 5) :: S) Z I J := gq_getI e_109_110 h
theorem e_109_113 : g_Pg 109 113 = ga_i2l 114 := (congrFun pg_109 113).trans rfl
theorem q_109_113 {L : List Value} {x : Int32} {S : List Value} {Z : gZ} {I : gI} {J : gJ} : g_at 109 113 L (.int x :: S) Z I J = g_at 109 114 L (.long x.toInt64 :: S) Z I J := gq_i2l e_109_113
theorem e_109_114 : g_Pg 109 114 = ga_last 115 := (congrFun pg_109 114).trans rfl
theorem q_109_114 {L : List Value} {a : Nat} {i : Int32} {v : Int64} {S : List Value} {Z : gZ} {I : gI} {J : gJ} (h : (gKd Z a).1 = 10) (h0 : 0 ≤ i) (h1 : i.toNatClampNeg < (gKd Z a).2) : g_at 109 114 L (.long v :: .int i :: .ref a :: S) Z I J = g_at 109 115 L S Z I (va_up J a (va_up (J a) i.toNatClampNeg v)) := gq_last e_109_114 h h0 h1
theorem e_109_115 : g_Pg 109 115 = ga_aload 0 116 := (congrFun pg_109 115).trans rfl
theorem q_109_115 {l1 l2 : Value} {x : Nat} {S : List Value} {Z : gZ} {I : gI} {J : gJ} : g_at 109 115 [.ref x, l1, l2] S Z I J = g_at 109 116 [.ref x, l1, l2] (.ref x :: S) Z I J := gq_aload e_109_115 rfl
theorem e_109_116 : g_Pg 109 116 = ga_getR 7 23 119 := (congrFun pg_109 116).trans rfl
theorem q_109_116 {L : List Value} {a : Nat} {S : List Value} {Z : gZ} {I : gI} {J : gJ} (h : (gKd Z a).1 = 7) (h1 : gRs Z a 23 = true) : g_at 109 116 L (.ref a :: S) Z I J = g_at 109 119 L (.ref (gRq Z a 23) :: S) Z I J := gq_getR e_109_116 h h1
theorem e_109_119 : g_Pg 109 119 = ga_iload 1 120 := (congrFun pg_109 119).trans rfl
theorem q_109_119 {l0 l2 : Value} {x : Int32} {S : List Value} {Z : gZ} {I : gI} {J : gJ} : g_at 109 119 [l0, .int x, l2] S Z I J = g_at 109 120 [l0, .int x, l2] (.int x :: S) Z I J := gq_iload e_109_119 rfl
theorem e_109_120 : g_Pg 109 120 = ga_push (.int 1) 121 := (congrFun pg_109 120).trans rfl
theorem q_109_120 {L : List Value} {S : List Value} {Z : gZ} {I : gI} {J : gJ} : g_at 109 120 L S Z I J = g_at 109 121 L (.int 1 :: S) Z I J := gq_push e_109_120
theorem e_109_121 : g_Pg 109 121 = ga_bast 122 := (congrFun pg_109 121).trans rfl
theorem q_109_121 {L : List Value} {a : Nat} {i : Int32} {v : Int32} {S : List Value} {Z : gZ} {I : gI} {J : gJ} (h : (gKd Z a).1 = 9) (h0 : 0 ≤ i) (h1 : i.toNatClampNeg < (gKd Z a).2) (h2 : gB01 v = true) : g_at 109 121 L (.int v :: .int i :: .ref a :: S) Z I J = g_at 109 122 L S Z (va_up I a (va_up (I a) i.toNatClampNeg v)) J := gq_bast e_109_121 h h0 h1 h2
theorem e_109_122 : g_Pg 109 122 = ga_aload 0 123 := (congrFun pg_109 122).trans rfl
theorem q_109_122 {l1 l2 : Value} {x : Nat} {S : List Value} {Z : gZ} {I : gI} {J : gJ} : g_at 109 122 [.ref x, l1, l2] S Z I J = g_at 109 123 [.ref x, l1, l2] (.ref x :: S) Z I J := gq_aload e_109_122 rfl
theorem e_109_123 : g_Pg 109 123 = ga_getI 7 21 126 := (congrFun pg_109 123).trans rfl
theorem q_109_123 {L : List Value} {a : Nat} {S : List Value} {Z : gZ} {I : gI} {J : gJ} (h : (gKd Z a).1 = 7) : g_at 109 123 L (.ref a :: S) Z I J = g_at 109 126 L (.int (I a 21) :: S) Z I J := gq_getI e_109_123 h
theorem e_109_126 : g_Pg 109 126 = ga_iret := (congrFun pg_109 126).trans rfl
theorem q_109_126 {L : List Value} {x : Int32} {Z : gZ} {I : gI} {J : gJ} : g_at 109 126 L [.int x] Z I J = some (some (.int x), Z, I, J) := gq_iret e_109_126
theorem e_110_0 : g_Pg 110 0 = ga_iload 1 1 := (congrFun pg_110 0).trans rfl
theorem q_110_0 {l0 l2 : Value} {x : Int32} {S : List Value} {Z : gZ} {I : gI} {J : gJ} : g_at 110 0 [l0, .int x, l2] S Z I J = g_at 110 1 [l0, .int x, l2] (.int x :: S) Z I J := gq_iload e_110_0 rfl
theorem e_110_1 : g_Pg 110 1 = ga_push (.int 0) 2 := (congrFun pg_110 1).trans rfl
theorem q_110_1 {L : List Value} {S : List Value} {Z : gZ} {I : gI} {J : gJ} : g_at 110 1 L S Z I J = g_at 110 2 L (.int 0 :: S) Z I J := gq_push e_110_1
theorem e_110_2 : g_Pg 110 2 = ga_push (.int 1) 3 := (congrFun pg_110 2).trans rfl
theorem q_110_2 {L : List Value} {S : List Value} {Z : gZ} {I : gI} {J : gJ} : g_at 110 2 L S Z I J = g_at 110 3 L (.int 1 :: S) Z I J := gq_push e_110_2
theorem e_110_3 : g_Pg 110 3 = ga_call 83 3 6 := (congrFun pg_110 3).trans rfl
theorem q_110_3 {L : List Value} {a0 : Int32} {a1 : Int32} {a2 : Int32} {Z : gZ} {I : gI} {J : gJ} : g_at 110 3 L [.int a0, .int a1, .int a2] Z I J = (g_at 83 0 [.int a2, .int a1, .int a0] [] Z I J).bind (fun r => g_at 110 6 L (r.1.toList ++ []) r.2.1 r.2.2.1 r.2.2.2) := gq_call e_110_3 rfl rfl rfl rfl rfl
theorem e_110_6 : g_Pg 110 6 = ga_if (fun x => decide (¬ x = 0)) 12 9 := (congrFun pg_110 6).trans rfl
theorem q_110_6 {L : List Value} {x : Int32} {S : List Value} {Z : gZ} {I : gI} {J : gJ} : g_at 110 6 L (.int x :: S) Z I J = if ¬ x = 0 then g_at 110 12 L S Z I J else g_at 110 9 L S Z I J := gq_if e_110_6 rfl
theorem e_110_9 : g_Pg 110 9 = ga_push (.int (-2)) 11 := (congrFun pg_110 9).trans rfl
theorem q_110_9 {L : List Value} {S : List Value} {Z : gZ} {I : gI} {J : gJ} : g_at 110 9 L S Z I J = g_at 110 11 L (.int (-2) :: S) Z I J := gq_push e_110_9
theorem e_110_11 : g_Pg 110 11 = ga_iret := (congrFun pg_110 11).trans rfl
theorem q_110_11 {L : List Value} {x : Int32} {Z : gZ} {I : gI} {J : gJ} : g_at 110 11 L [.int x] Z I J = some (some (.int x), Z, I, J) := gq_iret e_110_11
theorem e_110_12 : g_Pg 110 12 = ga_aload 0 13 := (congrFun pg_110 12).trans rfl
theorem q_110_12 {l1 l2 : Value} {x : Nat} {S : List Value} {Z : gZ} {I : gI} {J : gJ} : g_at 110 12 [.ref x, l1, l2] S Z I J = g_at 110 13 [.ref x, l1, l2] (.ref x :: S) Z I J := gq_aload e_110_12 rfl
theorem e_110_13 : g_Pg 110 13 = ga_getR 7 23 16 := (congrFun pg_110 13).trans rfl
theorem q_110_13 {L : List Value} {a : Nat} {S : List Value} {Z : gZ} {I : gI} {J : gJ} (h : (gKd Z a).1 = 7) (h1 : gRs Z a 23 = true) : g_at 110 13 L (.ref a :: S) Z I J = g_at 110 16 L (.ref (gRq Z a 23) :: S) Z I J := gq_getR e_110_13 h h1
theorem e_110_16 : g_Pg 110 16 = ga_iload 1 17 := (congrFun pg_110 16).trans rfl
theorem q_110_16 {l0 l2 : Value} {x : Int32} {S : List Value} {Z : gZ} {I : gI} {J : gJ} : g_at 110 16 [l0, .int x, l2] S Z I J = g_at 110 17 [l0, .int x, l2] (.int x :: S) Z I J := gq_iload e_110_16 rfl
theorem e_110_17 : g_Pg 110 17 = ga_bald 18 := (congrFun pg_110 17).trans rfl
theorem q_110_17 {L : List Value} {a : Nat} {i : Int32} {S : List Value} {Z : gZ} {I : gI} {J : gJ} (h : gTg9 (gKd Z a).1 a = true) (h0 : 0 ≤ i) (h1 : i.toNatClampNeg < (gKd Z a).2) : g_at 110 17 L (.int i :: .ref a :: S) Z I J = g_at 110 18 L (.int (I a i.toNatClampNeg) :: S) Z I J := gq_bald e_110_17 h h0 h1
theorem e_110_18 : g_Pg 110 18 = ga_if (fun x => decide (¬ x = 0)) 24 21 := (congrFun pg_110 18).trans rfl
theorem q_110_18 {L : List Value} {x : Int32} {S : List Value} {Z : gZ} {I : gI} {J : gJ} : g_at 110 18 L (.int x :: S) Z I J = if ¬ x = 0 then g_at 110 24 L S Z I J else g_at 110 21 L S Z I J := gq_if e_110_18 rfl
theorem e_110_21 : g_Pg 110 21 = ga_push (.int (-4)) 23 := (congrFun pg_110 21).trans rfl
theorem q_110_21 {L : List Value} {S : List Value} {Z : gZ} {I : gI} {J : gJ} : g_at 110 21 L S Z I J = g_at 110 23 L (.int (-4) :: S) Z I J := gq_push e_110_21
theorem e_110_23 : g_Pg 110 23 = ga_iret := (congrFun pg_110 23).trans rfl
theorem q_110_23 {L : List Value} {x : Int32} {Z : gZ} {I : gI} {J : gJ} : g_at 110 23 L [.int x] Z I J = some (some (.int x), Z, I, J) := gq_iret e_110_23
theorem e_110_24 : g_Pg 110 24 = ga_push (.int 0) 25 := (congrFun pg_110 24).trans rfl
theorem q_110_24 {L : List Value} {S : List Value} {Z : gZ} {I : gI} {J : gJ} : g_at 110 24 L S Z I J = g_at 110 25 L (.int 0 :: S) Z I J := gq_push e_110_24
theorem e_110_25 : g_Pg 110 25 = ga_istore 2 26 := (congrFun pg_110 25).trans rfl
theorem q_110_25 {l0 l1 l2 : Value} {x : Int32} {S : List Value} {Z : gZ} {I : gI} {J : gJ} (h : gN1 l1 = true) : g_at 110 25 [l0, l1, l2] (.int x :: S) Z I J = g_at 110 26 [l0, l1, .int x] S Z I J := gq_istore e_110_25 h rfl rfl
theorem e_110_26 : g_Pg 110 26 = ga_iload 2 27 := (congrFun pg_110 26).trans rfl
theorem q_110_26 {l0 l1 : Value} {x : Int32} {S : List Value} {Z : gZ} {I : gI} {J : gJ} : g_at 110 26 [l0, l1, .int x] S Z I J = g_at 110 27 [l0, l1, .int x] (.int x :: S) Z I J := gq_iload e_110_26 rfl
theorem e_110_27 : g_Pg 110 27 = ga_push (.int 10) 29 := (congrFun pg_110 27).trans rfl
theorem q_110_27 {L : List Value} {S : List Value} {Z : gZ} {I : gI} {J : gJ} : g_at 110 27 L S Z I J = g_at 110 29 L (.int 10 :: S) Z I J := gq_push e_110_27
theorem e_110_29 : g_Pg 110 29 = ga_cmp (fun x y => decide (y ≤ x)) 76 32 := (congrFun pg_110 29).trans rfl
theorem q_110_29 {L : List Value} {x y : Int32} {S : List Value} {Z : gZ} {I : gI} {J : gJ} : g_at 110 29 L (.int y :: .int x :: S) Z I J = if y ≤ x then g_at 110 76 L S Z I J else g_at 110 32 L S Z I J := gq_cmp e_110_29 rfl
theorem e_110_32 : g_Pg 110 32 = ga_aload 0 33 := (congrFun pg_110 32).trans rfl
theorem q_110_32 {l1 l2 : Value} {x : Nat} {S : List Value} {Z : gZ} {I : gI} {J : gJ} : g_at 110 32 [.ref x, l1, l2] S Z I J = g_at 110 33 [.ref x, l1, l2] (.ref x :: S) Z I J := gq_aload e_110_32 rfl
theorem e_110_33 : g_Pg 110 33 = ga_getR 7 18 36 := (congrFun pg_110 33).trans rfl
theorem q_110_33 {L : List Value} {a : Nat} {S : List Value} {Z : gZ} {I : gI} {J : gJ} (h : (gKd Z a).1 = 7) (h1 : gRs Z a 18 = true) : g_at 110 33 L (.ref a :: S) Z I J = g_at 110 36 L (.ref (gRq Z a 18) :: S) Z I J := gq_getR e_110_33 h h1
theorem e_110_36 : g_Pg 110 36 = ga_iload 2 37 := (congrFun pg_110 36).trans rfl
theorem q_110_36 {l0 l1 : Value} {x : Int32} {S : List Value} {Z : gZ} {I : gI} {J : gJ} : g_at 110 36 [l0, l1, .int x] S Z I J = g_at 110 37 [l0, l1, .int x] (.int x :: S) Z I J := gq_iload e_110_36 rfl
theorem e_110_37 : g_Pg 110 37 = ga_aload 0 38 := (congrFun pg_110 37).trans rfl
theorem q_110_37 {l1 l2 : Value} {x : Nat} {S : List Value} {Z : gZ} {I : gI} {J : gJ} : g_at 110 37 [.ref x, l1, l2] S Z I J = g_at 110 38 [.ref x, l1, l2] (.ref x :: S) Z I J := gq_aload e_110_37 rfl
theorem e_110_38 : g_Pg 110 38 = ga_getR 7 22 41 := (congrFun pg_110 38).trans rfl
theorem q_110_38 {L : List Value} {a : Nat} {S : List Value} {Z : gZ} {I : gI} {J : gJ} (h : (gKd Z a).1 = 7) (h1 : gRs Z a 22 = true) : g_at 110 38 L (.ref a :: S) Z I J = g_at 110 41 L (.ref (gRq Z a 22) :: S) Z I J := gq_getR e_110_38 h h1
theorem e_110_41 : g_Pg 110 41 = ga_push (.int 23) 43 := (congrFun pg_110 41).trans rfl
theorem q_110_41 {L : List Value} {S : List Value} {Z : gZ} {I : gI} {J : gJ} : g_at 110 41 L S Z I J = g_at 110 43 L (.int 23 :: S) Z I J := gq_push e_110_41
theorem e_110_43 : g_Pg 110 43 = ga_iload 1 44 := (congrFun pg_110 43).trans rfl
theorem q_110_43 {l0 l2 : Value} {x : Int32} {S : List Value} {Z : gZ} {I : gI} {J : gJ} : g_at 110 43 [l0, .int x, l2] S Z I J = g_at 110 44 [l0, .int x, l2] (.int x :: S) Z I J := gq_iload e_110_43 rfl
theorem e_110_44 : g_Pg 110 44 = ga_bin (fun x y => x * y) 45 := (congrFun pg_110 44).trans rfl
theorem q_110_44 {L : List Value} {x y : Int32} {S : List Value} {Z : gZ} {I : gI} {J : gJ} : g_at 110 44 L (.int y :: .int x :: S) Z I J = g_at 110 45 L (.int (x * y) :: S) Z I J := gq_bin e_110_44
theorem e_110_45 : g_Pg 110 45 = ga_iload 2 46 := (congrFun pg_110 45).trans rfl
theorem q_110_45 {l0 l1 : Value} {x : Int32} {S : List Value} {Z : gZ} {I : gI} {J : gJ} : g_at 110 45 [l0, l1, .int x] S Z I J = g_at 110 46 [l0, l1, .int x] (.int x :: S) Z I J := gq_iload e_110_45 rfl
theorem e_110_46 : g_Pg 110 46 = ga_bin (fun x y => x + y) 47 := (congrFun pg_110 46).trans rfl
theorem q_110_46 {L : List Value} {x y : Int32} {S : List Value} {Z : gZ} {I : gI} {J : gJ} : g_at 110 46 L (.int y :: .int x :: S) Z I J = g_at 110 47 L (.int (x + y) :: S) Z I J := gq_bin e_110_46
theorem e_110_47 : g_Pg 110 47 = ga_lald 48 := (congrFun pg_110 47).trans rfl
theorem q_110_47 {L : List Value} {a : Nat} {i : Int32} {S : List Value} {Z : gZ} {I : gI} {J : gJ} (h : (gKd Z a).1 = 10) (h0 : 0 ≤ i) (h1 : i.toNatClampNeg < (gKd Z a).2) : g_at 110 47 L (.int i :: .ref a :: S) Z I J = g_at 110 48 L (.long (J a i.toNatClampNeg) :: S) Z I J := gq_lald e_110_47 h h0 h1
theorem e_110_48 : g_Pg 110 48 = ga_last 49 := (congrFun pg_110 48).trans rfl
theorem q_110_48 {L : List Value} {a : Nat} {i : Int32} {v : Int64} {S : List Value} {Z : gZ} {I : gI} {J : gJ} (h : (gKd Z a).1 = 10) (h0 : 0 ≤ i) (h1 : i.toNatClampNeg < (gKd Z a).2) : g_at 110 48 L (.long v :: .int i :: .ref a :: S) Z I J = g_at 110 49 L S Z I (va_up J a (va_up (J a) i.toNatClampNeg v)) := gq_last e_110_48 h h0 h1
theorem e_110_49 : g_Pg 110 49 = ga_aload 0 50 := (congrFun pg_110 49).trans rfl
theorem q_110_49 {l1 l2 : Value} {x : Nat} {S : List Value} {Z : gZ} {I : gI} {J : gJ} : g_at 110 49 [.ref x, l1, l2] S Z I J = g_at 110 50 [.ref x, l1, l2] (.ref x :: S) Z I J := gq_aload e_110_49 rfl
theorem e_110_50 : g_Pg 110 50 = ga_getR 7 19 53 := (congrFun pg_110 50).trans rfl
theorem q_110_50 {L : List Value} {a : Nat} {S : List Value} {Z : gZ} {I : gI} {J : gJ} (h : (gKd Z a).1 = 7) (h1 : gRs Z a 19 = true) : g_at 110 50 L (.ref a :: S) Z I J = g_at 110 53 L (.ref (gRq Z a 19) :: S) Z I J := gq_getR e_110_50 h h1
theorem e_110_53 : g_Pg 110 53 = ga_iload 2 54 := (congrFun pg_110 53).trans rfl
theorem q_110_53 {l0 l1 : Value} {x : Int32} {S : List Value} {Z : gZ} {I : gI} {J : gJ} : g_at 110 53 [l0, l1, .int x] S Z I J = g_at 110 54 [l0, l1, .int x] (.int x :: S) Z I J := gq_iload e_110_53 rfl
theorem e_110_54 : g_Pg 110 54 = ga_aload 0 55 := (congrFun pg_110 54).trans rfl
theorem q_110_54 {l1 l2 : Value} {x : Nat} {S : List Value} {Z : gZ} {I : gI} {J : gJ} : g_at 110 54 [.ref x, l1, l2] S Z I J = g_at 110 55 [.ref x, l1, l2] (.ref x :: S) Z I J := gq_aload e_110_54 rfl
theorem e_110_55 : g_Pg 110 55 = ga_getR 7 22 58 := (congrFun pg_110 55).trans rfl
theorem q_110_55 {L : List Value} {a : Nat} {S : List Value} {Z : gZ} {I : gI} {J : gJ} (h : (gKd Z a).1 = 7) (h1 : gRs Z a 22 = true) : g_at 110 55 L (.ref a :: S) Z I J = g_at 110 58 L (.ref (gRq Z a 22) :: S) Z I J := gq_getR e_110_55 h h1
theorem e_110_58 : g_Pg 110 58 = ga_push (.int 23) 60 := (congrFun pg_110 58).trans rfl
theorem q_110_58 {L : List Value} {S : List Value} {Z : gZ} {I : gI} {J : gJ} : g_at 110 58 L S Z I J = g_at 110 60 L (.int 23 :: S) Z I J := gq_push e_110_58
theorem e_110_60 : g_Pg 110 60 = ga_iload 1 61 := (congrFun pg_110 60).trans rfl
theorem q_110_60 {l0 l2 : Value} {x : Int32} {S : List Value} {Z : gZ} {I : gI} {J : gJ} : g_at 110 60 [l0, .int x, l2] S Z I J = g_at 110 61 [l0, .int x, l2] (.int x :: S) Z I J := gq_iload e_110_60 rfl
theorem e_110_61 : g_Pg 110 61 = ga_bin (fun x y => x * y) 62 := (congrFun pg_110 61).trans rfl
theorem q_110_61 {L : List Value} {x y : Int32} {S : List Value} {Z : gZ} {I : gI} {J : gJ} : g_at 110 61 L (.int y :: .int x :: S) Z I J = g_at 110 62 L (.int (x * y) :: S) Z I J := gq_bin e_110_61
theorem e_110_62 : g_Pg 110 62 = ga_push (.int 10) 64 := (congrFun pg_110 62).trans rfl
theorem q_110_62 {L : List Value} {S : List Value} {Z : gZ} {I : gI} {J : gJ} : g_at 110 62 L S Z I J = g_at 110 64 L (.int 10 :: S) Z I J := gq_push e_110_62
theorem e_110_64 : g_Pg 110 64 = ga_bin (fun x y => x + y) 65 := (congrFun pg_110 64).trans rfl
theorem q_110_64 {L : List Value} {x y : Int32} {S : List Value} {Z : gZ} {I : gI} {J : gJ} : g_at 110 64 L (.int y :: .int x :: S) Z I J = g_at 110 65 L (.int (x + y) :: S) Z I J := gq_bin e_110_64
theorem e_110_65 : g_Pg 110 65 = ga_iload 2 66 := (congrFun pg_110 65).trans rfl
theorem q_110_65 {l0 l1 : Value} {x : Int32} {S : List Value} {Z : gZ} {I : gI} {J : gJ} : g_at 110 65 [l0, l1, .int x] S Z I J = g_at 110 66 [l0, l1, .int x] (.int x :: S) Z I J := gq_iload e_110_65 rfl
theorem e_110_66 : g_Pg 110 66 = ga_bin (fun x y => x + y) 67 := (congrFun pg_110 66).trans rfl
theorem q_110_66 {L : List Value} {x y : Int32} {S : List Value} {Z : gZ} {I : gI} {J : gJ} : g_at 110 66 L (.int y :: .int x :: S) Z I J = g_at 110 67 L (.int (x + y) :: S) Z I J := gq_bin e_110_66
theorem e_110_67 : g_Pg 110 67 = ga_lald 68 := (congrFun pg_110 67).trans rfl
theorem q_110_67 {L : List Value} {a : Nat} {i : Int32} {S : List Value} {Z : gZ} {I : gI} {J : gJ} (h : (gKd Z a).1 = 10) (h0 : 0 ≤ i) (h1 : i.toNatClampNeg < (gKd Z a).2) : g_at 110 67 L (.int i :: .ref a :: S) Z I J = g_at 110 68 L (.long (J a i.toNatClampNeg) :: S) Z I J := gq_lald e_110_67 h h0 h1
theorem e_110_68 : g_Pg 110 68 = ga_l2i 69 := (congrFun pg_110 68).trans rfl
theorem q_110_68 {L : List Value} {x : Int64} {S : List Value} {Z : gZ} {I : gI} {J : gJ} : g_at 110 68 L (.long x :: S) Z I J = g_at 110 69 L (.int x.toInt32 :: S) Z I J := gq_l2i e_110_68
theorem e_110_69 : g_Pg 110 69 = ga_iast 70 := (congrFun pg_110 69).trans rfl
theorem q_110_69 {L : List Value} {a : Nat} {i : Int32} {v : Int32} {S : List Value} {Z : gZ} {I : gI} {J : gJ} (h : (gKd Z a).1 = 8) (h0 : 0 ≤ i) (h1 : i.toNatClampNeg < (gKd Z a).2) : g_at 110 69 L (.int v :: .int i :: .ref a :: S) Z I J = g_at 110 70 L S Z (va_up I a (va_up (I a) i.toNatClampNeg v)) J := gq_iast e_110_69 h h0 h1
theorem e_110_70 : g_Pg 110 70 = ga_iinc 2 1 73 := (congrFun pg_110 70).trans rfl
theorem q_110_70 {l0 l1 : Value} {x : Int32} {S : List Value} {Z : gZ} {I : gI} {J : gJ} (h : gN1 l1 = true) : g_at 110 70 [l0, l1, .int x] S Z I J = g_at 110 73 [l0, l1, .int (x + 1)] S Z I J := gq_iinc e_110_70 rfl h rfl
theorem e_110_73 : g_Pg 110 73 = ga_goto 26 := (congrFun pg_110 73).trans rfl
theorem q_110_73 {L : List Value} {S : List Value} {Z : gZ} {I : gI} {J : gJ} : g_at 110 73 L S Z I J = g_at 110 26 L S Z I J := gq_goto e_110_73
theorem e_110_76 : g_Pg 110 76 = ga_aload 0 77 := (congrFun pg_110 76).trans rfl
theorem q_110_76 {l1 l2 : Value} {x : Nat} {S : List Value} {Z : gZ} {I : gI} {J : gJ} : g_at 110 76 [.ref x, l1, l2] S Z I J = g_at 110 77 [.ref x, l1, l2] (.ref x :: S) Z I J := gq_aload e_110_76 rfl
theorem e_110_77 : g_Pg 110 77 = ga_aload 0 78 := (congrFun pg_110 77).trans rfl
theorem q_110_77 {l1 l2 : Value} {x : Nat} {S : List Value} {Z : gZ} {I : gI} {J : gJ} : g_at 110 77 [.ref x, l1, l2] S Z I J = g_at 110 78 [.ref x, l1, l2] (.ref x :: S) Z I J := gq_aload e_110_77 rfl
theorem e_110_78 : g_Pg 110 78 = ga_getR 7 22 81 := (congrFun pg_110 78).trans rfl
theorem q_110_78 {L : List Value} {a : Nat} {S : List Value} {Z : gZ} {I : gI} {J : gJ} (h : (gKd Z a).1 = 7) (h1 : gRs Z a 22 = true) : g_at 110 78 L (.ref a :: S) Z I J = g_at 110 81 L (.ref (gRq Z a 22) :: S) Z I J := gq_getR e_110_78 h h1
theorem e_110_81 : g_Pg 110 81 = ga_push (.int 23) 83 := (congrFun pg_110 81).trans rfl
theorem q_110_81 {L : List Value} {S : List Value} {Z : gZ} {I : gI} {J : gJ} : g_at 110 81 L S Z I J = g_at 110 83 L (.int 23 :: S) Z I J := gq_push e_110_81
theorem e_110_83 : g_Pg 110 83 = ga_iload 1 84 := (congrFun pg_110 83).trans rfl
theorem q_110_83 {l0 l2 : Value} {x : Int32} {S : List Value} {Z : gZ} {I : gI} {J : gJ} : g_at 110 83 [l0, .int x, l2] S Z I J = g_at 110 84 [l0, .int x, l2] (.int x :: S) Z I J := gq_iload e_110_83 rfl
theorem e_110_84 : g_Pg 110 84 = ga_bin (fun x y => x * y) 85 := (congrFun pg_110 84).trans rfl
theorem q_110_84 {L : List Value} {x y : Int32} {S : List Value} {Z : gZ} {I : gI} {J : gJ} : g_at 110 84 L (.int y :: .int x :: S) Z I J = g_at 110 85 L (.int (x * y) :: S) Z I J := gq_bin e_110_84
theorem e_110_85 : g_Pg 110 85 = ga_push (.int 20) 87 := (congrFun pg_110 85).trans rfl
theorem q_110_85 {L : List Value} {S : List Value} {Z : gZ} {I : gI} {J : gJ} : g_at 110 85 L S Z I J = g_at 110 87 L (.int 20 :: S) Z I J := gq_push e_110_85
theorem e_110_87 : g_Pg 110 87 = ga_bin (fun x y => x + y) 88 := (congrFun pg_110 87).trans rfl
theorem q_110_87 {L : List Value} {x y : Int32} {S : List Value} {Z : gZ} {I : gI} {J : gJ} : g_at 110 87 L (.int y :: .int x :: S) Z I J = g_at 110 88 L (.int (x + y) :: S) Z I J := gq_bin e_110_87
theorem e_110_88 : g_Pg 110 88 = ga_lald 89 := (congrFun pg_110 88).trans rfl
theorem q_110_88 {L : List Value} {a : Nat} {i : Int32} {S : List Value} {Z : gZ} {I : gI} {J : gJ} (h : (gKd Z a).1 = 10) (h0 : 0 ≤ i) (h1 : i.toNatClampNeg < (gKd Z a).2) : g_at 110 88 L (.int i :: .ref a :: S) Z I J = g_at 110 89 L (.long (J a i.toNatClampNeg) :: S) Z I J := gq_lald e_110_88 h h0 h1
theorem e_110_89 : g_Pg 110 89 = ga_l2i 90 := (congrFun pg_110 89).trans rfl
theorem q_110_89 {L : List Value} {x : Int64} {S : List Value} {Z : gZ} {I : gI} {J : gJ} : g_at 110 89 L (.long x :: S) Z I J = g_at 110 90 L (.int x.toInt32 :: S) Z I J := gq_l2i e_110_89
theorem e_110_90 : g_Pg 110 90 = ga_putI 7 20 93 := (congrFun pg_110 90).trans rfl
theorem q_110_90 {L : List Value} {a : Nat} {v : Int32} {S : List Value} {Z : gZ} {I : gI} {J : gJ} (h : (gKd Z a).1 = 7) : g_at 110 90 L (.int v :: .ref a :: S) Z I J = g_at 110 93 L S Z (va_up I a (va_up (I a) 20 v)) J := gq_putI e_110_90 h
theorem e_110_93 : g_Pg 110 93 = ga_aload 0 94 := (congrFun pg_110 93).trans rfl
theorem q_110_93 {l1 l2 : Value} {x : Nat} {S : List Value} {Z : gZ} {I : gI} {J : gJ} : g_at 110 93 [.ref x, l1, l2] S Z I J = g_at 110 94 [.ref x, l1, l2] (.ref x :: S) Z I J := gq_aload e_110_93 rfl
theorem e_110_94 : g_Pg 110 94 = ga_aload 0 95 := (congrFun pg_110 94).trans rfl
theorem q_110_94 {l1 l2 : Value} {x : Nat} {S : List Value} {Z : gZ} {I : gI} {J : gJ} : g_at 110 94 [.ref x, l1, l2] S Z I J = g_at 110 95 [.ref x, l1, l2] (.ref x :: S) Z I J := gq_aload e_110_94 rfl
theorem e_110_95 : g_Pg 110 95 = ga_getR 7 22 98 := (congrFun pg_110 95).trans rfl
theorem q_110_95 {L : List Value} {a : Nat} {S : List Value} {Z : gZ} {I : gI} {J : gJ} (h : (gKd Z a).1 = 7) (h1 : gRs Z a 22 = true) : g_at 110 95 L (.ref a :: S) Z I J = g_at 110 98 L (.ref (gRq Z a 22) :: S) Z I J := gq_getR e_110_95 h h1
theorem e_110_98 : g_Pg 110 98 = ga_push (.int 23) 100 := (congrFun pg_110 98).trans rfl
theorem q_110_98 {L : List Value} {S : List Value} {Z : gZ} {I : gI} {J : gJ} : g_at 110 98 L S Z I J = g_at 110 100 L (.int 23 :: S) Z I J := gq_push e_110_98
theorem e_110_100 : g_Pg 110 100 = ga_iload 1 101 := (congrFun pg_110 100).trans rfl
theorem q_110_100 {l0 l2 : Value} {x : Int32} {S : List Value} {Z : gZ} {I : gI} {J : gJ} : g_at 110 100 [l0, .int x, l2] S Z I J = g_at 110 101 [l0, .int x, l2] (.int x :: S) Z I J := gq_iload e_110_100 rfl
theorem e_110_101 : g_Pg 110 101 = ga_bin (fun x y => x * y) 102 := (congrFun pg_110 101).trans rfl
theorem q_110_101 {L : List Value} {x y : Int32} {S : List Value} {Z : gZ} {I : gI} {J : gJ} : g_at 110 101 L (.int y :: .int x :: S) Z I J = g_at 110 102 L (.int (x * y) :: S) Z I J := gq_bin e_110_101
theorem e_110_102 : g_Pg 110 102 = ga_push (.int 21) 104 := (congrFun pg_110 102).trans rfl
theorem q_110_102 {L : List Value} {S : List Value} {Z : gZ} {I : gI} {J : gJ} : g_at 110 102 L S Z I J = g_at 110 104 L (.int 21 :: S) Z I J := gq_push e_110_102
theorem e_110_104 : g_Pg 110 104 = ga_bin (fun x y => x + y) 105 := (congrFun pg_110 104).trans rfl
theorem q_110_104 {L : List Value} {x y : Int32} {S : List Value} {Z : gZ} {I : gI} {J : gJ} : g_at 110 104 L (.int y :: .int x :: S) Z I J = g_at 110 105 L (.int (x + y) :: S) Z I J := gq_bin e_110_104
theorem e_110_105 : g_Pg 110 105 = ga_lald 106 := (congrFun pg_110 105).trans rfl
theorem q_110_105 {L : List Value} {a : Nat} {i : Int32} {S : List Value} {Z : gZ} {I : gI} {J : gJ} (h : (gKd Z a).1 = 10) (h0 : 0 ≤ i) (h1 : i.toNatClampNeg < (gKd Z a).2) : g_at 110 105 L (.int i :: .ref a :: S) Z I J = g_at 110 106 L (.long (J a i.toNatClampNeg) :: S) Z I J := gq_lald e_110_105 h h0 h1
theorem e_110_106 : g_Pg 110 106 = ga_l2i 107 := (congrFun pg_110 106).trans rfl
theorem q_110_106 {L : List Value} {x : Int64} {S : List Value} {Z : gZ} {I : gI} {J : gJ} : g_at 110 106 L (.long x :: S) Z I J = g_at 110 107 L (.int x.toInt32 :: S) Z I J := gq_l2i e_110_106
theorem e_110_107 : g_Pg 110 107 = ga_putI 7 21 110 := (congrFun pg_110 107).trans rfl
theorem q_110_107 {L : List Value} {a : Nat} {v : Int32} {S : List Value} {Z : gZ} {I : gI} {J : gJ} (h : (gKd Z a).1 = 7) : g_at 110 107 L (.int v :: .ref a :: S) Z I J = g_at 110 110 L S Z (va_up I a (va_up (I a) 21 v)) J := gq_putI e_110_107 h
theorem e_110_110 : g_Pg 110 110 = ga_aload 0 111 := (congrFun pg_110 110).trans rfl
theorem q_110_110 {l1 l2 : Value} {x : Nat} {S : List Value} {Z : gZ} {I : gI} {J : gJ} : g_at 110 110 [.ref x, l1, l2] S Z I J = g_at 110 111 [.ref x, l1, l2] (.ref x :: S) Z I J := gq_aload e_110_110 rfl
theorem e_110_111 : g_Pg 110 111 = ga_aload 0 112 := (congrFun pg_110 111).trans rfl
theorem q_110_111 {l1 l2 : Value} {x : Nat} {S : List Value} {Z : gZ} {I : gI} {J : gJ} : g_at 110 111 [.ref x, l1, l2] S Z I J = g_at 110 112 [.ref x, l1, l2] (.ref x :: S) Z I J := gq_aload e_110_111 rfl
theorem e_110_112 : g_Pg 110 112 = ga_getR 7 22 115 := (congrFun pg_110 112).trans rfl
theorem q_110_112 {L : List Value} {a : Nat} {S : List Value} {Z : gZ} {I : gI} {J : gJ} (h : (gKd Z a).1 = 7) (h1 : gRs Z a 22 = true) : g_at 110 112 L (.ref a :: S) Z I J = g_at 110 115 L (.ref (gRq Z a 22) :: S) Z I J := gq_getR e_110_112 h h1
theorem e_110_115 : g_Pg 110 115 = ga_push (.int 23) 117 := (congrFun pg_110 115).trans rfl
theorem q_110_115 {L : List Value} {S : List Value} {Z : gZ} {I : gI} {J : gJ} : g_at 110 115 L S Z I J = g_at 110 117 L (.int 23 :: S) Z I J := gq_push e_110_115
theorem e_110_117 : g_Pg 110 117 = ga_iload 1 118 := (congrFun pg_110 117).trans rfl
theorem q_110_117 {l0 l2 : Value} {x : Int32} {S : List Value} {Z : gZ} {I : gI} {J : gJ} : g_at 110 117 [l0, .int x, l2] S Z I J = g_at 110 118 [l0, .int x, l2] (.int x :: S) Z I J := gq_iload e_110_117 rfl
theorem e_110_118 : g_Pg 110 118 = ga_bin (fun x y => x * y) 119 := (congrFun pg_110 118).trans rfl
theorem q_110_118 {L : List Value} {x y : Int32} {S : List Value} {Z : gZ} {I : gI} {J : gJ} : g_at 110 118 L (.int y :: .int x :: S) Z I J = g_at 110 119 L (.int (x * y) :: S) Z I J := gq_bin e_110_118
theorem e_110_119 : g_Pg 110 119 = ga_push (.int 22) 121 := (congrFun pg_110 119).trans rfl
theorem q_110_119 {L : List Value} {S : List Value} {Z : gZ} {I : gI} {J : gJ} : g_at 110 119 L S Z I J = g_at 110 121 L (.int 22 :: S) Z I J := gq_push e_110_119
theorem e_110_121 : g_Pg 110 121 = ga_bin (fun x y => x + y) 122 := (congrFun pg_110 121).trans rfl
theorem q_110_121 {L : List Value} {x y : Int32} {S : List Value} {Z : gZ} {I : gI} {J : gJ} : g_at 110 121 L (.int y :: .int x :: S) Z I J = g_at 110 122 L (.int (x + y) :: S) Z I J := gq_bin e_110_121
theorem e_110_122 : g_Pg 110 122 = ga_lald 123 := (congrFun pg_110 122).trans rfl
theorem q_110_122 {L : List Value} {a : Nat} {i : Int32} {S : List Value} {Z : gZ} {I : gI} {J : gJ} (h : (gKd Z a).1 = 10) (h0 : 0 ≤ i) (h1 : i.toNatClampNeg < (gKd Z a).2) : g_at 110 122 L (.int i :: .ref a :: S) Z I J = g_at 110 123 L (.long (J a i.toNatClampNeg) :: S) Z I J := gq_lald e_110_122 h h0 h1
theorem e_110_123 : g_Pg 110 123 = ga_l2i 124 := (congrFun pg_110 123).trans rfl
theorem q_110_123 {L : List Value} {x : Int64} {S : List Value} {Z : gZ} {I : gI} {J : gJ} : g_at 110 123 L (.long x :: S) Z I J = g_at 110 124 L (.int x.toInt32 :: S) Z I J := gq_l2i e_110_123
theorem e_110_124 : g_Pg 110 124 = ga_putI 7 5 127 := (congrFun pg_110 124).trans rfl
theorem q_110_124 {L : List Value} {a : Nat} {v : Int32} {S : List Value} {Z : gZ} {I : gI} {J : gJ} (h : (gKd Z a).1 = 7) : g_at 110 124 L (.int v :: .ref a :: S) Z I J = g_at 110 127 L S Z (va_up I a (va_up (I a) 5 v)) J := gq_putI e_110_124 h
theorem e_110_127 : g_Pg 110 127 = ga_aload 0 128 := (congrFun pg_110 127).trans rfl
theorem q_110_127 {l1 l2 : Value} {x : Nat} {S : List Value} {Z : gZ} {I : gI} {J : gJ} : g_at 110 127 [.ref x, l1, l2] S Z I J = g_at 110 128 [.ref x, l1, l2] (.ref x :: S) Z I J := gq_aload e_110_127 rfl
theorem e_110_128 : g_Pg 110 128 = ga_getI 7 21 131 := (congrFun pg_110 128).trans rfl
theorem q_110_128 {L : List Value} {a : Nat} {S : List Value} {Z : gZ} {I : gI} {J : gJ} (h : (gKd Z a).1 = 7) : g_at 110 128 L (.ref a :: S) Z I J = g_at 110 131 L (.int (I a 21) :: S) Z I J := gq_getI e_110_128 h
theorem e_110_131 : g_Pg 110 131 = ga_iret := (congrFun pg_110 131).trans rfl
theorem q_110_131 {L : List Value} {x : Int32} {Z : gZ} {I : gI} {J : gJ} : g_at 110 131 L [.int x] Z I J = some (some (.int x), Z, I, J) := gq_iret e_110_131
theorem e_111_0 : g_Pg 111 0 = ga_aload 0 1 := (congrFun pg_111 0).trans rfl
theorem q_111_0 {l1 : Value} {x : Nat} {S : List Value} {Z : gZ} {I : gI} {J : gJ} : g_at 111 0 [.ref x, l1] S Z I J = g_at 111 1 [.ref x, l1] (.ref x :: S) Z I J := gq_aload e_111_0 rfl
theorem e_111_1 : g_Pg 111 1 = ga_iload 1 2 := (congrFun pg_111 1).trans rfl
theorem q_111_1 {l0 : Value} {x : Int32} {S : List Value} {Z : gZ} {I : gI} {J : gJ} : g_at 111 1 [l0, .int x] S Z I J = g_at 111 2 [l0, .int x] (.int x :: S) Z I J := gq_iload e_111_1 rfl
theorem e_111_2 : g_Pg 111 2 = ga_callV 7 99 1 5 := (congrFun pg_111 2).trans rfl
theorem q_111_2 {L : List Value} {a0 : Int32} {a1 : Nat} {Z : gZ} {I : gI} {J : gJ} (h : (gKd Z a1).1 = 7) : g_at 111 2 L [.int a0, .ref a1] Z I J = (g_at 99 0 [.ref a1, .int a0] [] Z I J).bind (fun r => g_at 111 5 L (r.1.toList ++ []) r.2.1 r.2.2.1 r.2.2.2) := gq_callV e_111_2 rfl rfl h rfl rfl rfl rfl rfl
theorem e_111_5 : g_Pg 111 5 = ga_if (fun x => decide (x = 0)) 20 8 := (congrFun pg_111 5).trans rfl
theorem q_111_5 {L : List Value} {x : Int32} {S : List Value} {Z : gZ} {I : gI} {J : gJ} : g_at 111 5 L (.int x :: S) Z I J = if x = 0 then g_at 111 20 L S Z I J else g_at 111 8 L S Z I J := gq_if e_111_5 rfl
theorem e_111_8 : g_Pg 111 8 = ga_iload 1 9 := (congrFun pg_111 8).trans rfl
theorem q_111_8 {l0 : Value} {x : Int32} {S : List Value} {Z : gZ} {I : gI} {J : gJ} : g_at 111 8 [l0, .int x] S Z I J = g_at 111 9 [l0, .int x] (.int x :: S) Z I J := gq_iload e_111_8 rfl
theorem e_111_9 : g_Pg 111 9 = ga_aload 0 10 := (congrFun pg_111 9).trans rfl
theorem q_111_9 {l1 : Value} {x : Nat} {S : List Value} {Z : gZ} {I : gI} {J : gJ} : g_at 111 9 [.ref x, l1] S Z I J = g_at 111 10 [.ref x, l1] (.ref x :: S) Z I J := gq_aload e_111_9 rfl
theorem e_111_10 : g_Pg 111 10 = ga_getI 7 27 13 := (congrFun pg_111 10).trans rfl
theorem q_111_10 {L : List Value} {a : Nat} {S : List Value} {Z : gZ} {I : gI} {J : gJ} (h : (gKd Z a).1 = 7) : g_at 111 10 L (.ref a :: S) Z I J = g_at 111 13 L (.int (I a 27) :: S) Z I J := gq_getI e_111_10 h
theorem e_111_13 : g_Pg 111 13 = ga_cmp (fun x y => decide (x = y)) 20 16 := (congrFun pg_111 13).trans rfl
theorem q_111_13 {L : List Value} {x y : Int32} {S : List Value} {Z : gZ} {I : gI} {J : gJ} : g_at 111 13 L (.int y :: .int x :: S) Z I J = if x = y then g_at 111 20 L S Z I J else g_at 111 16 L S Z I J := gq_cmp e_111_13 rfl
theorem e_111_16 : g_Pg 111 16 = ga_push (.int 1) 17 := (congrFun pg_111 16).trans rfl
theorem q_111_16 {L : List Value} {S : List Value} {Z : gZ} {I : gI} {J : gJ} : g_at 111 16 L S Z I J = g_at 111 17 L (.int 1 :: S) Z I J := gq_push e_111_16
theorem e_111_17 : g_Pg 111 17 = ga_goto 21 := (congrFun pg_111 17).trans rfl
theorem q_111_17 {L : List Value} {S : List Value} {Z : gZ} {I : gI} {J : gJ} : g_at 111 17 L S Z I J = g_at 111 21 L S Z I J := gq_goto e_111_17
theorem e_111_20 : g_Pg 111 20 = ga_push (.int 0) 21 := (congrFun pg_111 20).trans rfl
theorem q_111_20 {L : List Value} {S : List Value} {Z : gZ} {I : gI} {J : gJ} : g_at 111 20 L S Z I J = g_at 111 21 L (.int 0 :: S) Z I J := gq_push e_111_20
theorem e_111_21 : g_Pg 111 21 = ga_zret := (congrFun pg_111 21).trans rfl
theorem q_111_21 {L : List Value} {x : Int32} {Z : gZ} {I : gI} {J : gJ} (h : gB01 x = true) : g_at 111 21 L [.int x] Z I J = some (some (.int x), Z, I, J) := gq_zret e_111_21 h
theorem e_112_0 : g_Pg 112 0 = ga_push (.int 0) 1 := (congrFun pg_112 0).trans rfl
theorem q_112_0 {L : List Value} {S : List Value} {Z : gZ} {I : gI} {J : gJ} : g_at 112 0 L S Z I J = g_at 112 1 L (.int 0 :: S) Z I J := gq_push e_112_0
theorem e_112_1 : g_Pg 112 1 = ga_istore 2 2 := (congrFun pg_112 1).trans rfl
theorem q_112_1 {l0 l1 l2 l3 l4 : Value} {x : Int32} {S : List Value} {Z : gZ} {I : gI} {J : gJ} (h : gN1 l1 = true) : g_at 112 1 [l0, l1, l2, l3, l4] (.int x :: S) Z I J = g_at 112 2 [l0, l1, .int x, l3, l4] S Z I J := gq_istore e_112_1 h rfl rfl
theorem e_112_2 : g_Pg 112 2 = ga_iload 1 3 := (congrFun pg_112 2).trans rfl
theorem q_112_2 {l0 l2 l3 l4 : Value} {x : Int32} {S : List Value} {Z : gZ} {I : gI} {J : gJ} : g_at 112 2 [l0, .int x, l2, l3, l4] S Z I J = g_at 112 3 [l0, .int x, l2, l3, l4] (.int x :: S) Z I J := gq_iload e_112_2 rfl
theorem e_112_3 : g_Pg 112 3 = ga_istore 3 4 := (congrFun pg_112 3).trans rfl
theorem q_112_3 {l0 l1 l2 l3 l4 : Value} {x : Int32} {S : List Value} {Z : gZ} {I : gI} {J : gJ} (h : gN1 l2 = true) : g_at 112 3 [l0, l1, l2, l3, l4] (.int x :: S) Z I J = g_at 112 4 [l0, l1, l2, .int x, l4] S Z I J := gq_istore e_112_3 h rfl rfl
theorem e_112_4 : g_Pg 112 4 = ga_push (.int 0) 5 := (congrFun pg_112 4).trans rfl
theorem q_112_4 {L : List Value} {S : List Value} {Z : gZ} {I : gI} {J : gJ} : g_at 112 4 L S Z I J = g_at 112 5 L (.int 0 :: S) Z I J := gq_push e_112_4
theorem e_112_5 : g_Pg 112 5 = ga_istore 4 7 := (congrFun pg_112 5).trans rfl
theorem q_112_5 {l0 l1 l2 l3 l4 : Value} {x : Int32} {S : List Value} {Z : gZ} {I : gI} {J : gJ} (h : gN1 l3 = true) : g_at 112 5 [l0, l1, l2, l3, l4] (.int x :: S) Z I J = g_at 112 7 [l0, l1, l2, l3, .int x] S Z I J := gq_istore e_112_5 h rfl rfl
theorem e_112_7 : g_Pg 112 7 = ga_iload 4 9 := (congrFun pg_112 7).trans rfl
theorem q_112_7 {l0 l1 l2 l3 : Value} {x : Int32} {S : List Value} {Z : gZ} {I : gI} {J : gJ} : g_at 112 7 [l0, l1, l2, l3, .int x] S Z I J = g_at 112 9 [l0, l1, l2, l3, .int x] (.int x :: S) Z I J := gq_iload e_112_7 rfl
theorem e_112_9 : g_Pg 112 9 = ga_aload 0 10 := (congrFun pg_112 9).trans rfl
theorem q_112_9 {l1 l2 l3 l4 : Value} {x : Nat} {S : List Value} {Z : gZ} {I : gI} {J : gJ} : g_at 112 9 [.ref x, l1, l2, l3, l4] S Z I J = g_at 112 10 [.ref x, l1, l2, l3, l4] (.ref x :: S) Z I J := gq_aload e_112_9 rfl
theorem e_112_10 : g_Pg 112 10 = ga_getI 7 0 13 := (congrFun pg_112 10).trans rfl
theorem q_112_10 {L : List Value} {a : Nat} {S : List Value} {Z : gZ} {I : gI} {J : gJ} (h : (gKd Z a).1 = 7) : g_at 112 10 L (.ref a :: S) Z I J = g_at 112 13 L (.int (I a 0) :: S) Z I J := gq_getI e_112_10 h
theorem e_112_13 : g_Pg 112 13 = ga_cmp (fun x y => decide (y ≤ x)) 64 16 := (congrFun pg_112 13).trans rfl
theorem q_112_13 {L : List Value} {x y : Int32} {S : List Value} {Z : gZ} {I : gI} {J : gJ} : g_at 112 13 L (.int y :: .int x :: S) Z I J = if y ≤ x then g_at 112 64 L S Z I J else g_at 112 16 L S Z I J := gq_cmp e_112_13 rfl
theorem e_112_16 : g_Pg 112 16 = ga_aload 0 17 := (congrFun pg_112 16).trans rfl
theorem q_112_16 {l1 l2 l3 l4 : Value} {x : Nat} {S : List Value} {Z : gZ} {I : gI} {J : gJ} : g_at 112 16 [.ref x, l1, l2, l3, l4] S Z I J = g_at 112 17 [.ref x, l1, l2, l3, l4] (.ref x :: S) Z I J := gq_aload e_112_16 rfl
theorem e_112_17 : g_Pg 112 17 = ga_iload 3 18 := (congrFun pg_112 17).trans rfl
theorem q_112_17 {l0 l1 l2 l4 : Value} {x : Int32} {S : List Value} {Z : gZ} {I : gI} {J : gJ} : g_at 112 17 [l0, l1, l2, .int x, l4] S Z I J = g_at 112 18 [l0, l1, l2, .int x, l4] (.int x :: S) Z I J := gq_iload e_112_17 rfl
theorem e_112_18 : g_Pg 112 18 = ga_callV 7 111 1 21 := (congrFun pg_112 18).trans rfl
theorem q_112_18 {L : List Value} {a0 : Int32} {a1 : Nat} {Z : gZ} {I : gI} {J : gJ} (h : (gKd Z a1).1 = 7) : g_at 112 18 L [.int a0, .ref a1] Z I J = (g_at 111 0 [.ref a1, .int a0] [] Z I J).bind (fun r => g_at 112 21 L (r.1.toList ++ []) r.2.1 r.2.2.1 r.2.2.2) := gq_callV e_112_18 rfl rfl h rfl rfl rfl rfl rfl
theorem e_112_21 : g_Pg 112 21 = ga_if (fun x => decide (x = 0)) 34 24 := (congrFun pg_112 21).trans rfl
theorem q_112_21 {L : List Value} {x : Int32} {S : List Value} {Z : gZ} {I : gI} {J : gJ} : g_at 112 21 L (.int x :: S) Z I J = if x = 0 then g_at 112 34 L S Z I J else g_at 112 24 L S Z I J := gq_if e_112_21 rfl
theorem e_112_24 : g_Pg 112 24 = ga_aload 0 25 := (congrFun pg_112 24).trans rfl
theorem q_112_24 {l1 l2 l3 l4 : Value} {x : Nat} {S : List Value} {Z : gZ} {I : gI} {J : gJ} : g_at 112 24 [.ref x, l1, l2, l3, l4] S Z I J = g_at 112 25 [.ref x, l1, l2, l3, l4] (.ref x :: S) Z I J := gq_aload e_112_24 rfl
theorem e_112_25 : g_Pg 112 25 = ga_getR 7 3 28 := (congrFun pg_112 25).trans rfl
theorem q_112_25 {L : List Value} {a : Nat} {S : List Value} {Z : gZ} {I : gI} {J : gJ} (h : (gKd Z a).1 = 7) (h1 : gRs Z a 3 = true) : g_at 112 25 L (.ref a :: S) Z I J = g_at 112 28 L (.ref (gRq Z a 3) :: S) Z I J := gq_getR e_112_25 h h1
theorem e_112_28 : g_Pg 112 28 = ga_iload 3 29 := (congrFun pg_112 28).trans rfl
theorem q_112_28 {l0 l1 l2 l4 : Value} {x : Int32} {S : List Value} {Z : gZ} {I : gI} {J : gJ} : g_at 112 28 [l0, l1, l2, .int x, l4] S Z I J = g_at 112 29 [l0, l1, l2, .int x, l4] (.int x :: S) Z I J := gq_iload e_112_28 rfl
theorem e_112_29 : g_Pg 112 29 = ga_iald 30 := (congrFun pg_112 29).trans rfl
theorem q_112_29 {L : List Value} {a : Nat} {i : Int32} {S : List Value} {Z : gZ} {I : gI} {J : gJ} (h : gTg8 (gKd Z a).1 a = true) (h0 : 0 ≤ i) (h1 : i.toNatClampNeg < (gKd Z a).2) : g_at 112 29 L (.int i :: .ref a :: S) Z I J = g_at 112 30 L (.int (I a i.toNatClampNeg) :: S) Z I J := gq_iald e_112_29 h h0 h1
theorem e_112_30 : g_Pg 112 30 = ga_push (.int 3) 31 := (congrFun pg_112 30).trans rfl
theorem q_112_30 {L : List Value} {S : List Value} {Z : gZ} {I : gI} {J : gJ} : g_at 112 30 L S Z I J = g_at 112 31 L (.int 3 :: S) Z I J := gq_push e_112_30
theorem e_112_31 : g_Pg 112 31 = ga_cmp (fun x y => decide (¬ x = y)) 36 34 := (congrFun pg_112 31).trans rfl
theorem q_112_31 {L : List Value} {x y : Int32} {S : List Value} {Z : gZ} {I : gI} {J : gJ} : g_at 112 31 L (.int y :: .int x :: S) Z I J = if ¬ x = y then g_at 112 36 L S Z I J else g_at 112 34 L S Z I J := gq_cmp e_112_31 rfl
theorem e_112_34 : g_Pg 112 34 = ga_push (.int (-1)) 35 := (congrFun pg_112 34).trans rfl
theorem q_112_34 {L : List Value} {S : List Value} {Z : gZ} {I : gI} {J : gJ} : g_at 112 34 L S Z I J = g_at 112 35 L (.int (-1) :: S) Z I J := gq_push e_112_34
theorem e_112_35 : g_Pg 112 35 = ga_iret := (congrFun pg_112 35).trans rfl
theorem q_112_35 {L : List Value} {x : Int32} {Z : gZ} {I : gI} {J : gJ} : g_at 112 35 L [.int x] Z I J = some (some (.int x), Z, I, J) := gq_iret e_112_35
theorem e_112_36 : g_Pg 112 36 = ga_iload 2 37 := (congrFun pg_112 36).trans rfl
theorem q_112_36 {l0 l1 l3 l4 : Value} {x : Int32} {S : List Value} {Z : gZ} {I : gI} {J : gJ} : g_at 112 36 [l0, l1, .int x, l3, l4] S Z I J = g_at 112 37 [l0, l1, .int x, l3, l4] (.int x :: S) Z I J := gq_iload e_112_36 rfl
theorem e_112_37 : g_Pg 112 37 = ga_aload 0 38 := (congrFun pg_112 37).trans rfl
theorem q_112_37 {l1 l2 l3 l4 : Value} {x : Nat} {S : List Value} {Z : gZ} {I : gI} {J : gJ} : g_at 112 37 [.ref x, l1, l2, l3, l4] S Z I J = g_at 112 38 [.ref x, l1, l2, l3, l4] (.ref x :: S) Z I J := gq_aload e_112_37 rfl
theorem e_112_38 : g_Pg 112 38 = ga_iload 3 39 := (congrFun pg_112 38).trans rfl
theorem q_112_38 {l0 l1 l2 l4 : Value} {x : Int32} {S : List Value} {Z : gZ} {I : gI} {J : gJ} : g_at 112 38 [l0, l1, l2, .int x, l4] S Z I J = g_at 112 39 [l0, l1, l2, .int x, l4] (.int x :: S) Z I J := gq_iload e_112_38 rfl
theorem e_112_39 : g_Pg 112 39 = ga_callV 7 100 1 42 := (congrFun pg_112 39).trans rfl
theorem q_112_39 {L : List Value} {a0 : Int32} {a1 : Nat} {r2 : Int32} {Z : gZ} {I : gI} {J : gJ} (h : (gKd Z a1).1 = 7) : g_at 112 39 L [.int a0, .ref a1, .int r2] Z I J = (g_at 100 0 [.ref a1, .int a0] [] Z I J).bind (fun r => g_at 112 42 L (r.1.toList ++ [.int r2]) r.2.1 r.2.2.1 r.2.2.2) := gq_callV e_112_39 rfl rfl h rfl rfl rfl rfl rfl
theorem e_112_42 : g_Pg 112 42 = ga_bin (fun x y => x + y) 43 := (congrFun pg_112 42).trans rfl
theorem q_112_42 {L : List Value} {x y : Int32} {S : List Value} {Z : gZ} {I : gI} {J : gJ} : g_at 112 42 L (.int y :: .int x :: S) Z I J = g_at 112 43 L (.int (x + y) :: S) Z I J := gq_bin e_112_42
theorem e_112_43 : g_Pg 112 43 = ga_istore 2 44 := (congrFun pg_112 43).trans rfl
theorem q_112_43 {l0 l1 l2 l3 l4 : Value} {x : Int32} {S : List Value} {Z : gZ} {I : gI} {J : gJ} (h : gN1 l1 = true) : g_at 112 43 [l0, l1, l2, l3, l4] (.int x :: S) Z I J = g_at 112 44 [l0, l1, .int x, l3, l4] S Z I J := gq_istore e_112_43 h rfl rfl
theorem e_112_44 : g_Pg 112 44 = ga_aload 0 45 := (congrFun pg_112 44).trans rfl
theorem q_112_44 {l1 l2 l3 l4 : Value} {x : Nat} {S : List Value} {Z : gZ} {I : gI} {J : gJ} : g_at 112 44 [.ref x, l1, l2, l3, l4] S Z I J = g_at 112 45 [.ref x, l1, l2, l3, l4] (.ref x :: S) Z I J := gq_aload e_112_44 rfl
theorem e_112_45 : g_Pg 112 45 = ga_getR 7 1 48 := (congrFun pg_112 45).trans rfl
theorem q_112_45 {L : List Value} {a : Nat} {S : List Value} {Z : gZ} {I : gI} {J : gJ} (h : (gKd Z a).1 = 7) (h1 : gRs Z a 1 = true) : g_at 112 45 L (.ref a :: S) Z I J = g_at 112 48 L (.ref (gRq Z a 1) :: S) Z I J := gq_getR e_112_45 h h1
theorem e_112_48 : g_Pg 112 48 = ga_iload 3 49 := (congrFun pg_112 48).trans rfl
theorem q_112_48 {l0 l1 l2 l4 : Value} {x : Int32} {S : List Value} {Z : gZ} {I : gI} {J : gJ} : g_at 112 48 [l0, l1, l2, .int x, l4] S Z I J = g_at 112 49 [l0, l1, l2, .int x, l4] (.int x :: S) Z I J := gq_iload e_112_48 rfl
theorem e_112_49 : g_Pg 112 49 = ga_iald 50 := (congrFun pg_112 49).trans rfl
theorem q_112_49 {L : List Value} {a : Nat} {i : Int32} {S : List Value} {Z : gZ} {I : gI} {J : gJ} (h : gTg8 (gKd Z a).1 a = true) (h0 : 0 ≤ i) (h1 : i.toNatClampNeg < (gKd Z a).2) : g_at 112 49 L (.int i :: .ref a :: S) Z I J = g_at 112 50 L (.int (I a i.toNatClampNeg) :: S) Z I J := gq_iald e_112_49 h h0 h1
theorem e_112_50 : g_Pg 112 50 = ga_istore 3 51 := (congrFun pg_112 50).trans rfl
theorem q_112_50 {l0 l1 l2 l3 l4 : Value} {x : Int32} {S : List Value} {Z : gZ} {I : gI} {J : gJ} (h : gN1 l2 = true) : g_at 112 50 [l0, l1, l2, l3, l4] (.int x :: S) Z I J = g_at 112 51 [l0, l1, l2, .int x, l4] S Z I J := gq_istore e_112_50 h rfl rfl
theorem e_112_51 : g_Pg 112 51 = ga_iload 3 52 := (congrFun pg_112 51).trans rfl
theorem q_112_51 {l0 l1 l2 l4 : Value} {x : Int32} {S : List Value} {Z : gZ} {I : gI} {J : gJ} : g_at 112 51 [l0, l1, l2, .int x, l4] S Z I J = g_at 112 52 [l0, l1, l2, .int x, l4] (.int x :: S) Z I J := gq_iload e_112_51 rfl
theorem e_112_52 : g_Pg 112 52 = ga_iload 1 53 := (congrFun pg_112 52).trans rfl
theorem q_112_52 {l0 l2 l3 l4 : Value} {x : Int32} {S : List Value} {Z : gZ} {I : gI} {J : gJ} : g_at 112 52 [l0, .int x, l2, l3, l4] S Z I J = g_at 112 53 [l0, .int x, l2, l3, l4] (.int x :: S) Z I J := gq_iload e_112_52 rfl
theorem e_112_53 : g_Pg 112 53 = ga_cmp (fun x y => decide (¬ x = y)) 58 56 := (congrFun pg_112 53).trans rfl
theorem q_112_53 {L : List Value} {x y : Int32} {S : List Value} {Z : gZ} {I : gI} {J : gJ} : g_at 112 53 L (.int y :: .int x :: S) Z I J = if ¬ x = y then g_at 112 58 L S Z I J else g_at 112 56 L S Z I J := gq_cmp e_112_53 rfl
theorem e_112_56 : g_Pg 112 56 = ga_iload 2 57 := (congrFun pg_112 56).trans rfl
theorem q_112_56 {l0 l1 l3 l4 : Value} {x : Int32} {S : List Value} {Z : gZ} {I : gI} {J : gJ} : g_at 112 56 [l0, l1, .int x, l3, l4] S Z I J = g_at 112 57 [l0, l1, .int x, l3, l4] (.int x :: S) Z I J := gq_iload e_112_56 rfl
theorem e_112_57 : g_Pg 112 57 = ga_iret := (congrFun pg_112 57).trans rfl
theorem q_112_57 {L : List Value} {x : Int32} {Z : gZ} {I : gI} {J : gJ} : g_at 112 57 L [.int x] Z I J = some (some (.int x), Z, I, J) := gq_iret e_112_57
theorem e_112_58 : g_Pg 112 58 = ga_iinc 4 1 61 := (congrFun pg_112 58).trans rfl
theorem q_112_58 {l0 l1 l2 l3 : Value} {x : Int32} {S : List Value} {Z : gZ} {I : gI} {J : gJ} (h : gN1 l3 = true) : g_at 112 58 [l0, l1, l2, l3, .int x] S Z I J = g_at 112 61 [l0, l1, l2, l3, .int (x + 1)] S Z I J := gq_iinc e_112_58 rfl h rfl
theorem e_112_61 : g_Pg 112 61 = ga_goto 7 := (congrFun pg_112 61).trans rfl
theorem q_112_61 {L : List Value} {S : List Value} {Z : gZ} {I : gI} {J : gJ} : g_at 112 61 L S Z I J = g_at 112 7 L S Z I J := gq_goto e_112_61
theorem e_112_64 : g_Pg 112 64 = ga_push (.int (-1)) 65 := (congrFun pg_112 64).trans rfl
theorem q_112_64 {L : List Value} {S : List Value} {Z : gZ} {I : gI} {J : gJ} : g_at 112 64 L S Z I J = g_at 112 65 L (.int (-1) :: S) Z I J := gq_push e_112_64
theorem e_112_65 : g_Pg 112 65 = ga_iret := (congrFun pg_112 65).trans rfl
theorem q_112_65 {L : List Value} {x : Int32} {Z : gZ} {I : gI} {J : gJ} : g_at 112 65 L [.int x] Z I J = some (some (.int x), Z, I, J) := gq_iret e_112_65
theorem e_113_0 : g_Pg 113 0 = ga_push (.int 0) 1 := (congrFun pg_113 0).trans rfl
theorem q_113_0 {L : List Value} {S : List Value} {Z : gZ} {I : gI} {J : gJ} : g_at 113 0 L S Z I J = g_at 113 1 L (.int 0 :: S) Z I J := gq_push e_113_0
theorem e_113_1 : g_Pg 113 1 = ga_istore 3 2 := (congrFun pg_113 1).trans rfl
theorem q_113_1 {l0 l1 l2 l3 l4 l5 l6 : Value} {x : Int32} {S : List Value} {Z : gZ} {I : gI} {J : gJ} (h : gN1 l2 = true) : g_at 113 1 [l0, l1, l2, l3, l4, l5, l6] (.int x :: S) Z I J = g_at 113 2 [l0, l1, l2, .int x, l4, l5, l6] S Z I J := gq_istore e_113_1 h rfl rfl
theorem e_113_2 : g_Pg 113 2 = ga_push (.int 1) 3 := (congrFun pg_113 2).trans rfl
theorem q_113_2 {L : List Value} {S : List Value} {Z : gZ} {I : gI} {J : gJ} : g_at 113 2 L S Z I J = g_at 113 3 L (.int 1 :: S) Z I J := gq_push e_113_2
theorem e_113_3 : g_Pg 113 3 = ga_istore 4 5 := (congrFun pg_113 3).trans rfl
theorem q_113_3 {l0 l1 l2 l3 l4 l5 l6 : Value} {x : Int32} {S : List Value} {Z : gZ} {I : gI} {J : gJ} (h : gN1 l3 = true) : g_at 113 3 [l0, l1, l2, l3, l4, l5, l6] (.int x :: S) Z I J = g_at 113 5 [l0, l1, l2, l3, .int x, l5, l6] S Z I J := gq_istore e_113_3 h rfl rfl
theorem e_113_5 : g_Pg 113 5 = ga_iload 2 6 := (congrFun pg_113 5).trans rfl
theorem q_113_5 {l0 l1 l3 l4 l5 l6 : Value} {x : Int32} {S : List Value} {Z : gZ} {I : gI} {J : gJ} : g_at 113 5 [l0, l1, .int x, l3, l4, l5, l6] S Z I J = g_at 113 6 [l0, l1, .int x, l3, l4, l5, l6] (.int x :: S) Z I J := gq_iload e_113_5 rfl
theorem e_113_6 : g_Pg 113 6 = ga_istore 5 8 := (congrFun pg_113 6).trans rfl
theorem q_113_6 {l0 l1 l2 l3 l4 l5 l6 : Value} {x : Int32} {S : List Value} {Z : gZ} {I : gI} {J : gJ} (h : gN1 l4 = true) : g_at 113 6 [l0, l1, l2, l3, l4, l5, l6] (.int x :: S) Z I J = g_at 113 8 [l0, l1, l2, l3, l4, .int x, l6] S Z I J := gq_istore e_113_6 h rfl rfl
theorem e_113_8 : g_Pg 113 8 = ga_push (.int 0) 9 := (congrFun pg_113 8).trans rfl
theorem q_113_8 {L : List Value} {S : List Value} {Z : gZ} {I : gI} {J : gJ} : g_at 113 8 L S Z I J = g_at 113 9 L (.int 0 :: S) Z I J := gq_push e_113_8
theorem e_113_9 : g_Pg 113 9 = ga_istore 6 11 := (congrFun pg_113 9).trans rfl
theorem q_113_9 {l0 l1 l2 l3 l4 l5 l6 : Value} {x : Int32} {S : List Value} {Z : gZ} {I : gI} {J : gJ} (h : gN1 l5 = true) : g_at 113 9 [l0, l1, l2, l3, l4, l5, l6] (.int x :: S) Z I J = g_at 113 11 [l0, l1, l2, l3, l4, l5, .int x] S Z I J := gq_istore e_113_9 h rfl rfl
theorem e_113_11 : g_Pg 113 11 = ga_iload 6 13 := (congrFun pg_113 11).trans rfl
theorem q_113_11 {l0 l1 l2 l3 l4 l5 : Value} {x : Int32} {S : List Value} {Z : gZ} {I : gI} {J : gJ} : g_at 113 11 [l0, l1, l2, l3, l4, l5, .int x] S Z I J = g_at 113 13 [l0, l1, l2, l3, l4, l5, .int x] (.int x :: S) Z I J := gq_iload e_113_11 rfl
theorem e_113_13 : g_Pg 113 13 = ga_aload 0 14 := (congrFun pg_113 13).trans rfl
theorem q_113_13 {l1 l2 l3 l4 l5 l6 : Value} {x : Nat} {S : List Value} {Z : gZ} {I : gI} {J : gJ} : g_at 113 13 [.ref x, l1, l2, l3, l4, l5, l6] S Z I J = g_at 113 14 [.ref x, l1, l2, l3, l4, l5, l6] (.ref x :: S) Z I J := gq_aload e_113_13 rfl
theorem e_113_14 : g_Pg 113 14 = ga_getI 7 0 17 := (congrFun pg_113 14).trans rfl
theorem q_113_14 {L : List Value} {a : Nat} {S : List Value} {Z : gZ} {I : gI} {J : gJ} (h : (gKd Z a).1 = 7) : g_at 113 14 L (.ref a :: S) Z I J = g_at 113 17 L (.int (I a 0) :: S) Z I J := gq_getI e_113_14 h
theorem e_113_17 : g_Pg 113 17 = ga_cmp (fun x y => decide (y < x)) 82 20 := (congrFun pg_113 17).trans rfl
theorem q_113_17 {L : List Value} {x y : Int32} {S : List Value} {Z : gZ} {I : gI} {J : gJ} : g_at 113 17 L (.int y :: .int x :: S) Z I J = if y < x then g_at 113 82 L S Z I J else g_at 113 20 L S Z I J := gq_cmp e_113_17 rfl
theorem e_113_20 : g_Pg 113 20 = ga_iload 5 22 := (congrFun pg_113 20).trans rfl
theorem q_113_20 {l0 l1 l2 l3 l4 l6 : Value} {x : Int32} {S : List Value} {Z : gZ} {I : gI} {J : gJ} : g_at 113 20 [l0, l1, l2, l3, l4, .int x, l6] S Z I J = g_at 113 22 [l0, l1, l2, l3, l4, .int x, l6] (.int x :: S) Z I J := gq_iload e_113_20 rfl
theorem e_113_22 : g_Pg 113 22 = ga_iload 1 23 := (congrFun pg_113 22).trans rfl
theorem q_113_22 {l0 l2 l3 l4 l5 l6 : Value} {x : Int32} {S : List Value} {Z : gZ} {I : gI} {J : gJ} : g_at 113 22 [l0, .int x, l2, l3, l4, l5, l6] S Z I J = g_at 113 23 [l0, .int x, l2, l3, l4, l5, l6] (.int x :: S) Z I J := gq_iload e_113_22 rfl
theorem e_113_23 : g_Pg 113 23 = ga_cmp (fun x y => decide (x = y)) 82 26 := (congrFun pg_113 23).trans rfl
theorem q_113_23 {L : List Value} {x y : Int32} {S : List Value} {Z : gZ} {I : gI} {J : gJ} : g_at 113 23 L (.int y :: .int x :: S) Z I J = if x = y then g_at 113 82 L S Z I J else g_at 113 26 L S Z I J := gq_cmp e_113_23 rfl
theorem e_113_26 : g_Pg 113 26 = ga_aload 0 27 := (congrFun pg_113 26).trans rfl
theorem q_113_26 {l1 l2 l3 l4 l5 l6 : Value} {x : Nat} {S : List Value} {Z : gZ} {I : gI} {J : gJ} : g_at 113 26 [.ref x, l1, l2, l3, l4, l5, l6] S Z I J = g_at 113 27 [.ref x, l1, l2, l3, l4, l5, l6] (.ref x :: S) Z I J := gq_aload e_113_26 rfl
theorem e_113_27 : g_Pg 113 27 = ga_iload 5 29 := (congrFun pg_113 27).trans rfl
theorem q_113_27 {l0 l1 l2 l3 l4 l6 : Value} {x : Int32} {S : List Value} {Z : gZ} {I : gI} {J : gJ} : g_at 113 27 [l0, l1, l2, l3, l4, .int x, l6] S Z I J = g_at 113 29 [l0, l1, l2, l3, l4, .int x, l6] (.int x :: S) Z I J := gq_iload e_113_27 rfl
theorem e_113_29 : g_Pg 113 29 = ga_callV 7 111 1 32 := (congrFun pg_113 29).trans rfl
theorem q_113_29 {L : List Value} {a0 : Int32} {a1 : Nat} {Z : gZ} {I : gI} {J : gJ} (h : (gKd Z a1).1 = 7) : g_at 113 29 L [.int a0, .ref a1] Z I J = (g_at 111 0 [.ref a1, .int a0] [] Z I J).bind (fun r => g_at 113 32 L (r.1.toList ++ []) r.2.1 r.2.2.1 r.2.2.2) := gq_callV e_113_29 rfl rfl h rfl rfl rfl rfl rfl
theorem e_113_32 : g_Pg 113 32 = ga_if (fun x => decide (¬ x = 0)) 37 35 := (congrFun pg_113 32).trans rfl
theorem q_113_32 {L : List Value} {x : Int32} {S : List Value} {Z : gZ} {I : gI} {J : gJ} : g_at 113 32 L (.int x :: S) Z I J = if ¬ x = 0 then g_at 113 37 L S Z I J else g_at 113 35 L S Z I J := gq_if e_113_32 rfl
theorem e_113_35 : g_Pg 113 35 = ga_push (.int (-1)) 36 := (congrFun pg_113 35).trans rfl
theorem q_113_35 {L : List Value} {S : List Value} {Z : gZ} {I : gI} {J : gJ} : g_at 113 35 L S Z I J = g_at 113 36 L (.int (-1) :: S) Z I J := gq_push e_113_35
theorem e_113_36 : g_Pg 113 36 = ga_iret := (congrFun pg_113 36).trans rfl
theorem q_113_36 {L : List Value} {x : Int32} {Z : gZ} {I : gI} {J : gJ} : g_at 113 36 L [.int x] Z I J = some (some (.int x), Z, I, J) := gq_iret e_113_36
theorem e_113_37 : g_Pg 113 37 = ga_iload 3 38 := (congrFun pg_113 37).trans rfl
theorem q_113_37 {l0 l1 l2 l4 l5 l6 : Value} {x : Int32} {S : List Value} {Z : gZ} {I : gI} {J : gJ} : g_at 113 37 [l0, l1, l2, .int x, l4, l5, l6] S Z I J = g_at 113 38 [l0, l1, l2, .int x, l4, l5, l6] (.int x :: S) Z I J := gq_iload e_113_37 rfl
theorem e_113_38 : g_Pg 113 38 = ga_aload 0 39 := (congrFun pg_113 38).trans rfl
theorem q_113_38 {l1 l2 l3 l4 l5 l6 : Value} {x : Nat} {S : List Value} {Z : gZ} {I : gI} {J : gJ} : g_at 113 38 [.ref x, l1, l2, l3, l4, l5, l6] S Z I J = g_at 113 39 [.ref x, l1, l2, l3, l4, l5, l6] (.ref x :: S) Z I J := gq_aload e_113_38 rfl
theorem e_113_39 : g_Pg 113 39 = ga_iload 5 41 := (congrFun pg_113 39).trans rfl
theorem q_113_39 {l0 l1 l2 l3 l4 l6 : Value} {x : Int32} {S : List Value} {Z : gZ} {I : gI} {J : gJ} : g_at 113 39 [l0, l1, l2, l3, l4, .int x, l6] S Z I J = g_at 113 41 [l0, l1, l2, l3, l4, .int x, l6] (.int x :: S) Z I J := gq_iload e_113_39 rfl
theorem e_113_41 : g_Pg 113 41 = ga_callV 7 100 1 44 := (congrFun pg_113 41).trans rfl
theorem q_113_41 {L : List Value} {a0 : Int32} {a1 : Nat} {r2 : Int32} {Z : gZ} {I : gI} {J : gJ} (h : (gKd Z a1).1 = 7) : g_at 113 41 L [.int a0, .ref a1, .int r2] Z I J = (g_at 100 0 [.ref a1, .int a0] [] Z I J).bind (fun r => g_at 113 44 L (r.1.toList ++ [.int r2]) r.2.1 r.2.2.1 r.2.2.2) := gq_callV e_113_41 rfl rfl h rfl rfl rfl rfl rfl
theorem e_113_44 : g_Pg 113 44 = ga_bin (fun x y => x + y) 45 := (congrFun pg_113 44).trans rfl
theorem q_113_44 {L : List Value} {x y : Int32} {S : List Value} {Z : gZ} {I : gI} {J : gJ} : g_at 113 44 L (.int y :: .int x :: S) Z I J = g_at 113 45 L (.int (x + y) :: S) Z I J := gq_bin e_113_44
theorem e_113_45 : g_Pg 113 45 = ga_istore 3 46 := (congrFun pg_113 45).trans rfl
theorem q_113_45 {l0 l1 l2 l3 l4 l5 l6 : Value} {x : Int32} {S : List Value} {Z : gZ} {I : gI} {J : gJ} (h : gN1 l2 = true) : g_at 113 45 [l0, l1, l2, l3, l4, l5, l6] (.int x :: S) Z I J = g_at 113 46 [l0, l1, l2, .int x, l4, l5, l6] S Z I J := gq_istore e_113_45 h rfl rfl
theorem e_113_46 : g_Pg 113 46 = ga_iload 4 48 := (congrFun pg_113 46).trans rfl
theorem q_113_46 {l0 l1 l2 l3 l5 l6 : Value} {x : Int32} {S : List Value} {Z : gZ} {I : gI} {J : gJ} : g_at 113 46 [l0, l1, l2, l3, .int x, l5, l6] S Z I J = g_at 113 48 [l0, l1, l2, l3, .int x, l5, l6] (.int x :: S) Z I J := gq_iload e_113_46 rfl
theorem e_113_48 : g_Pg 113 48 = ga_aload 0 49 := (congrFun pg_113 48).trans rfl
theorem q_113_48 {l1 l2 l3 l4 l5 l6 : Value} {x : Nat} {S : List Value} {Z : gZ} {I : gI} {J : gJ} : g_at 113 48 [.ref x, l1, l2, l3, l4, l5, l6] S Z I J = g_at 113 49 [.ref x, l1, l2, l3, l4, l5, l6] (.ref x :: S) Z I J := gq_aload e_113_48 rfl
theorem e_113_49 : g_Pg 113 49 = ga_getR 7 3 52 := (congrFun pg_113 49).trans rfl
theorem q_113_49 {L : List Value} {a : Nat} {S : List Value} {Z : gZ} {I : gI} {J : gJ} (h : (gKd Z a).1 = 7) (h1 : gRs Z a 3 = true) : g_at 113 49 L (.ref a :: S) Z I J = g_at 113 52 L (.ref (gRq Z a 3) :: S) Z I J := gq_getR e_113_49 h h1
theorem e_113_52 : g_Pg 113 52 = ga_iload 5 54 := (congrFun pg_113 52).trans rfl
theorem q_113_52 {l0 l1 l2 l3 l4 l6 : Value} {x : Int32} {S : List Value} {Z : gZ} {I : gI} {J : gJ} : g_at 113 52 [l0, l1, l2, l3, l4, .int x, l6] S Z I J = g_at 113 54 [l0, l1, l2, l3, l4, .int x, l6] (.int x :: S) Z I J := gq_iload e_113_52 rfl
theorem e_113_54 : g_Pg 113 54 = ga_iald 55 := (congrFun pg_113 54).trans rfl
theorem q_113_54 {L : List Value} {a : Nat} {i : Int32} {S : List Value} {Z : gZ} {I : gI} {J : gJ} (h : gTg8 (gKd Z a).1 a = true) (h0 : 0 ≤ i) (h1 : i.toNatClampNeg < (gKd Z a).2) : g_at 113 54 L (.int i :: .ref a :: S) Z I J = g_at 113 55 L (.int (I a i.toNatClampNeg) :: S) Z I J := gq_iald e_113_54 h h0 h1
theorem e_113_55 : g_Pg 113 55 = ga_push (.int 3) 56 := (congrFun pg_113 55).trans rfl
theorem q_113_55 {L : List Value} {S : List Value} {Z : gZ} {I : gI} {J : gJ} : g_at 113 55 L S Z I J = g_at 113 56 L (.int 3 :: S) Z I J := gq_push e_113_55
theorem e_113_56 : g_Pg 113 56 = ga_cmp (fun x y => decide (¬ x = y)) 63 59 := (congrFun pg_113 56).trans rfl
theorem q_113_56 {L : List Value} {x y : Int32} {S : List Value} {Z : gZ} {I : gI} {J : gJ} : g_at 113 56 L (.int y :: .int x :: S) Z I J = if ¬ x = y then g_at 113 63 L S Z I J else g_at 113 59 L S Z I J := gq_cmp e_113_56 rfl
theorem e_113_59 : g_Pg 113 59 = ga_push (.int 2) 60 := (congrFun pg_113 59).trans rfl
theorem q_113_59 {L : List Value} {S : List Value} {Z : gZ} {I : gI} {J : gJ} : g_at 113 59 L S Z I J = g_at 113 60 L (.int 2 :: S) Z I J := gq_push e_113_59
theorem e_113_60 : g_Pg 113 60 = ga_goto 64 := (congrFun pg_113 60).trans rfl
theorem q_113_60 {L : List Value} {S : List Value} {Z : gZ} {I : gI} {J : gJ} : g_at 113 60 L S Z I J = g_at 113 64 L S Z I J := gq_goto e_113_60
theorem e_113_63 : g_Pg 113 63 = ga_push (.int 1) 64 := (congrFun pg_113 63).trans rfl
theorem q_113_63 {L : List Value} {S : List Value} {Z : gZ} {I : gI} {J : gJ} : g_at 113 63 L S Z I J = g_at 113 64 L (.int 1 :: S) Z I J := gq_push e_113_63
theorem e_113_64 : g_Pg 113 64 = ga_bin (fun x y => x * y) 65 := (congrFun pg_113 64).trans rfl
theorem q_113_64 {L : List Value} {x y : Int32} {S : List Value} {Z : gZ} {I : gI} {J : gJ} : g_at 113 64 L (.int y :: .int x :: S) Z I J = g_at 113 65 L (.int (x * y) :: S) Z I J := gq_bin e_113_64
theorem e_113_65 : g_Pg 113 65 = ga_istore 4 67 := (congrFun pg_113 65).trans rfl
theorem q_113_65 {l0 l1 l2 l3 l4 l5 l6 : Value} {x : Int32} {S : List Value} {Z : gZ} {I : gI} {J : gJ} (h : gN1 l3 = true) : g_at 113 65 [l0, l1, l2, l3, l4, l5, l6] (.int x :: S) Z I J = g_at 113 67 [l0, l1, l2, l3, .int x, l5, l6] S Z I J := gq_istore e_113_65 h rfl rfl
theorem e_113_67 : g_Pg 113 67 = ga_aload 0 68 := (congrFun pg_113 67).trans rfl
theorem q_113_67 {l1 l2 l3 l4 l5 l6 : Value} {x : Nat} {S : List Value} {Z : gZ} {I : gI} {J : gJ} : g_at 113 67 [.ref x, l1, l2, l3, l4, l5, l6] S Z I J = g_at 113 68 [.ref x, l1, l2, l3, l4, l5, l6] (.ref x :: S) Z I J := gq_aload e_113_67 rfl
theorem e_113_68 : g_Pg 113 68 = ga_getR 7 1 71 := (congrFun pg_113 68).trans rfl
theorem q_113_68 {L : List Value} {a : Nat} {S : List Value} {Z : gZ} {I : gI} {J : gJ} (h : (gKd Z a).1 = 7) (h1 : gRs Z a 1 = true) : g_at 113 68 L (.ref a :: S) Z I J = g_at 113 71 L (.ref (gRq Z a 1) :: S) Z I J := gq_getR e_113_68 h h1
theorem e_113_71 : g_Pg 113 71 = ga_iload 5 73 := (congrFun pg_113 71).trans rfl
theorem q_113_71 {l0 l1 l2 l3 l4 l6 : Value} {x : Int32} {S : List Value} {Z : gZ} {I : gI} {J : gJ} : g_at 113 71 [l0, l1, l2, l3, l4, .int x, l6] S Z I J = g_at 113 73 [l0, l1, l2, l3, l4, .int x, l6] (.int x :: S) Z I J := gq_iload e_113_71 rfl
theorem e_113_73 : g_Pg 113 73 = ga_iald 74 := (congrFun pg_113 73).trans rfl
theorem q_113_73 {L : List Value} {a : Nat} {i : Int32} {S : List Value} {Z : gZ} {I : gI} {J : gJ} (h : gTg8 (gKd Z a).1 a = true) (h0 : 0 ≤ i) (h1 : i.toNatClampNeg < (gKd Z a).2) : g_at 113 73 L (.int i :: .ref a :: S) Z I J = g_at 113 74 L (.int (I a i.toNatClampNeg) :: S) Z I J := gq_iald e_113_73 h h0 h1
theorem e_113_74 : g_Pg 113 74 = ga_istore 5 76 := (congrFun pg_113 74).trans rfl
theorem q_113_74 {l0 l1 l2 l3 l4 l5 l6 : Value} {x : Int32} {S : List Value} {Z : gZ} {I : gI} {J : gJ} (h : gN1 l4 = true) : g_at 113 74 [l0, l1, l2, l3, l4, l5, l6] (.int x :: S) Z I J = g_at 113 76 [l0, l1, l2, l3, l4, .int x, l6] S Z I J := gq_istore e_113_74 h rfl rfl
theorem e_113_76 : g_Pg 113 76 = ga_iinc 6 1 79 := (congrFun pg_113 76).trans rfl
theorem q_113_76 {l0 l1 l2 l3 l4 l5 : Value} {x : Int32} {S : List Value} {Z : gZ} {I : gI} {J : gJ} (h : gN1 l5 = true) : g_at 113 76 [l0, l1, l2, l3, l4, l5, .int x] S Z I J = g_at 113 79 [l0, l1, l2, l3, l4, l5, .int (x + 1)] S Z I J := gq_iinc e_113_76 rfl h rfl
theorem e_113_79 : g_Pg 113 79 = ga_goto 11 := (congrFun pg_113 79).trans rfl
theorem q_113_79 {L : List Value} {S : List Value} {Z : gZ} {I : gI} {J : gJ} : g_at 113 79 L S Z I J = g_at 113 11 L S Z I J := gq_goto e_113_79
theorem e_113_82 : g_Pg 113 82 = ga_iload 5 84 := (congrFun pg_113 82).trans rfl
theorem q_113_82 {l0 l1 l2 l3 l4 l6 : Value} {x : Int32} {S : List Value} {Z : gZ} {I : gI} {J : gJ} : g_at 113 82 [l0, l1, l2, l3, l4, .int x, l6] S Z I J = g_at 113 84 [l0, l1, l2, l3, l4, .int x, l6] (.int x :: S) Z I J := gq_iload e_113_82 rfl
theorem e_113_84 : g_Pg 113 84 = ga_iload 1 85 := (congrFun pg_113 84).trans rfl
theorem q_113_84 {l0 l2 l3 l4 l5 l6 : Value} {x : Int32} {S : List Value} {Z : gZ} {I : gI} {J : gJ} : g_at 113 84 [l0, .int x, l2, l3, l4, l5, l6] S Z I J = g_at 113 85 [l0, .int x, l2, l3, l4, l5, l6] (.int x :: S) Z I J := gq_iload e_113_84 rfl
theorem e_113_85 : g_Pg 113 85 = ga_cmp (fun x y => decide (x = y)) 90 88 := (congrFun pg_113 85).trans rfl
theorem q_113_85 {L : List Value} {x y : Int32} {S : List Value} {Z : gZ} {I : gI} {J : gJ} : g_at 113 85 L (.int y :: .int x :: S) Z I J = if x = y then g_at 113 90 L S Z I J else g_at 113 88 L S Z I J := gq_cmp e_113_85 rfl
theorem e_113_88 : g_Pg 113 88 = ga_push (.int (-1)) 89 := (congrFun pg_113 88).trans rfl
theorem q_113_88 {L : List Value} {S : List Value} {Z : gZ} {I : gI} {J : gJ} : g_at 113 88 L S Z I J = g_at 113 89 L (.int (-1) :: S) Z I J := gq_push e_113_88
theorem e_113_89 : g_Pg 113 89 = ga_iret := (congrFun pg_113 89).trans rfl
theorem q_113_89 {L : List Value} {x : Int32} {Z : gZ} {I : gI} {J : gJ} : g_at 113 89 L [.int x] Z I J = some (some (.int x), Z, I, J) := gq_iret e_113_89
theorem e_113_90 : g_Pg 113 90 = ga_aload 0 91 := (congrFun pg_113 90).trans rfl
theorem q_113_90 {l1 l2 l3 l4 l5 l6 : Value} {x : Nat} {S : List Value} {Z : gZ} {I : gI} {J : gJ} : g_at 113 90 [.ref x, l1, l2, l3, l4, l5, l6] S Z I J = g_at 113 91 [.ref x, l1, l2, l3, l4, l5, l6] (.ref x :: S) Z I J := gq_aload e_113_90 rfl
theorem e_113_91 : g_Pg 113 91 = ga_iload 1 92 := (congrFun pg_113 91).trans rfl
theorem q_113_91 {l0 l2 l3 l4 l5 l6 : Value} {x : Int32} {S : List Value} {Z : gZ} {I : gI} {J : gJ} : g_at 113 91 [l0, .int x, l2, l3, l4, l5, l6] S Z I J = g_at 113 92 [l0, .int x, l2, l3, l4, l5, l6] (.int x :: S) Z I J := gq_iload e_113_91 rfl
theorem e_113_92 : g_Pg 113 92 = ga_callV 7 112 1 95 := (congrFun pg_113 92).trans rfl
theorem q_113_92 {L : List Value} {a0 : Int32} {a1 : Nat} {Z : gZ} {I : gI} {J : gJ} (h : (gKd Z a1).1 = 7) : g_at 113 92 L [.int a0, .ref a1] Z I J = (g_at 112 0 [.ref a1, .int a0, .null, .null, .null] [] Z I J).bind (fun r => g_at 113 95 L (r.1.toList ++ []) r.2.1 r.2.2.1 r.2.2.2) := gq_callV e_113_92 rfl rfl h rfl rfl rfl rfl rfl
theorem e_113_95 : g_Pg 113 95 = ga_istore 6 97 := (congrFun pg_113 95).trans rfl
theorem q_113_95 {l0 l1 l2 l3 l4 l5 l6 : Value} {x : Int32} {S : List Value} {Z : gZ} {I : gI} {J : gJ} (h : gN1 l5 = true) : g_at 113 95 [l0, l1, l2, l3, l4, l5, l6] (.int x :: S) Z I J = g_at 113 97 [l0, l1, l2, l3, l4, l5, .int x] S Z I J := gq_istore e_113_95 h rfl rfl
theorem e_113_97 : g_Pg 113 97 = ga_iload 4 99 := (congrFun pg_113 97).trans rfl
theorem q_113_97 {l0 l1 l2 l3 l5 l6 : Value} {x : Int32} {S : List Value} {Z : gZ} {I : gI} {J : gJ} : g_at 113 97 [l0, l1, l2, l3, .int x, l5, l6] S Z I J = g_at 113 99 [l0, l1, l2, l3, .int x, l5, l6] (.int x :: S) Z I J := gq_iload e_113_97 rfl
theorem e_113_99 : g_Pg 113 99 = ga_push (.int 1) 100 := (congrFun pg_113 99).trans rfl
theorem q_113_99 {L : List Value} {S : List Value} {Z : gZ} {I : gI} {J : gJ} : g_at 113 99 L S Z I J = g_at 113 100 L (.int 1 :: S) Z I J := gq_push e_113_99
theorem e_113_100 : g_Pg 113 100 = ga_cmp (fun x y => decide (¬ x = y)) 107 103 := (congrFun pg_113 100).trans rfl
theorem q_113_100 {L : List Value} {x y : Int32} {S : List Value} {Z : gZ} {I : gI} {J : gJ} : g_at 113 100 L (.int y :: .int x :: S) Z I J = if ¬ x = y then g_at 113 107 L S Z I J else g_at 113 103 L S Z I J := gq_cmp e_113_100 rfl
theorem e_113_103 : g_Pg 113 103 = ga_iload 3 104 := (congrFun pg_113 103).trans rfl
theorem q_113_103 {l0 l1 l2 l4 l5 l6 : Value} {x : Int32} {S : List Value} {Z : gZ} {I : gI} {J : gJ} : g_at 113 103 [l0, l1, l2, .int x, l4, l5, l6] S Z I J = g_at 113 104 [l0, l1, l2, .int x, l4, l5, l6] (.int x :: S) Z I J := gq_iload e_113_103 rfl
theorem e_113_104 : g_Pg 113 104 = ga_goto 126 := (congrFun pg_113 104).trans rfl
theorem q_113_104 {L : List Value} {S : List Value} {Z : gZ} {I : gI} {J : gJ} : g_at 113 104 L S Z I J = g_at 113 126 L S Z I J := gq_goto e_113_104
theorem e_113_107 : g_Pg 113 107 = ga_iload 6 109 := (congrFun pg_113 107).trans rfl
theorem q_113_107 {l0 l1 l2 l3 l4 l5 : Value} {x : Int32} {S : List Value} {Z : gZ} {I : gI} {J : gJ} : g_at 113 107 [l0, l1, l2, l3, l4, l5, .int x] S Z I J = g_at 113 109 [l0, l1, l2, l3, l4, l5, .int x] (.int x :: S) Z I J := gq_iload e_113_107 rfl
theorem e_113_109 : g_Pg 113 109 = ga_push (.int (-1)) 110 := (congrFun pg_113 109).trans rfl
theorem q_113_109 {L : List Value} {S : List Value} {Z : gZ} {I : gI} {J : gJ} : g_at 113 109 L S Z I J = g_at 113 110 L (.int (-1) :: S) Z I J := gq_push e_113_109
theorem e_113_110 : g_Pg 113 110 = ga_cmp (fun x y => decide (¬ x = y)) 117 113 := (congrFun pg_113 110).trans rfl
theorem q_113_110 {L : List Value} {x y : Int32} {S : List Value} {Z : gZ} {I : gI} {J : gJ} : g_at 113 110 L (.int y :: .int x :: S) Z I J = if ¬ x = y then g_at 113 117 L S Z I J else g_at 113 113 L S Z I J := gq_cmp e_113_110 rfl
theorem e_113_113 : g_Pg 113 113 = ga_push (.int (-1)) 114 := (congrFun pg_113 113).trans rfl
theorem q_113_113 {L : List Value} {S : List Value} {Z : gZ} {I : gI} {J : gJ} : g_at 113 113 L S Z I J = g_at 113 114 L (.int (-1) :: S) Z I J := gq_push e_113_113
theorem e_113_114 : g_Pg 113 114 = ga_goto 126 := (congrFun pg_113 114).trans rfl
theorem q_113_114 {L : List Value} {S : List Value} {Z : gZ} {I : gI} {J : gJ} : g_at 113 114 L S Z I J = g_at 113 126 L S Z I J := gq_goto e_113_114
theorem e_113_117 : g_Pg 113 117 = ga_iload 3 118 := (congrFun pg_113 117).trans rfl
theorem q_113_117 {l0 l1 l2 l4 l5 l6 : Value} {x : Int32} {S : List Value} {Z : gZ} {I : gI} {J : gJ} : g_at 113 117 [l0, l1, l2, .int x, l4, l5, l6] S Z I J = g_at 113 118 [l0, l1, l2, .int x, l4, l5, l6] (.int x :: S) Z I J := gq_iload e_113_117 rfl
theorem e_113_118 : g_Pg 113 118 = ga_iload 4 120 := (congrFun pg_113 118).trans rfl
theorem q_113_118 {l0 l1 l2 l3 l5 l6 : Value} {x : Int32} {S : List Value} {Z : gZ} {I : gI} {J : gJ} : g_at 113 118 [l0, l1, l2, l3, .int x, l5, l6] S Z I J = g_at 113 120 [l0, l1, l2, l3, .int x, l5, l6] (.int x :: S) Z I J := gq_iload e_113_118 rfl
theorem e_113_120 : g_Pg 113 120 = ga_push (.int 1) 121 := (congrFun pg_113 120).trans rfl
theorem q_113_120 {L : List Value} {S : List Value} {Z : gZ} {I : gI} {J : gJ} : g_at 113 120 L S Z I J = g_at 113 121 L (.int 1 :: S) Z I J := gq_push e_113_120
theorem e_113_121 : g_Pg 113 121 = ga_bin (fun x y => x - y) 122 := (congrFun pg_113 121).trans rfl
theorem q_113_121 {L : List Value} {x y : Int32} {S : List Value} {Z : gZ} {I : gI} {J : gJ} : g_at 113 121 L (.int y :: .int x :: S) Z I J = g_at 113 122 L (.int (x - y) :: S) Z I J := gq_bin e_113_121
theorem e_113_122 : g_Pg 113 122 = ga_iload 6 124 := (congrFun pg_113 122).trans rfl
theorem q_113_122 {l0 l1 l2 l3 l4 l5 : Value} {x : Int32} {S : List Value} {Z : gZ} {I : gI} {J : gJ} : g_at 113 122 [l0, l1, l2, l3, l4, l5, .int x] S Z I J = g_at 113 124 [l0, l1, l2, l3, l4, l5, .int x] (.int x :: S) Z I J := gq_iload e_113_122 rfl
theorem e_113_124 : g_Pg 113 124 = ga_bin (fun x y => x * y) 125 := (congrFun pg_113 124).trans rfl
theorem q_113_124 {L : List Value} {x y : Int32} {S : List Value} {Z : gZ} {I : gI} {J : gJ} : g_at 113 124 L (.int y :: .int x :: S) Z I J = g_at 113 125 L (.int (x * y) :: S) Z I J := gq_bin e_113_124
theorem e_113_125 : g_Pg 113 125 = ga_bin (fun x y => x + y) 126 := (congrFun pg_113 125).trans rfl
theorem q_113_125 {L : List Value} {x y : Int32} {S : List Value} {Z : gZ} {I : gI} {J : gJ} : g_at 113 125 L (.int y :: .int x :: S) Z I J = g_at 113 126 L (.int (x + y) :: S) Z I J := gq_bin e_113_125
theorem e_113_126 : g_Pg 113 126 = ga_iret := (congrFun pg_113 126).trans rfl
theorem q_113_126 {L : List Value} {x : Int32} {Z : gZ} {I : gI} {J : gJ} : g_at 113 126 L [.int x] Z I J = some (some (.int x), Z, I, J) := gq_iret e_113_126
theorem e_114_0 : g_Pg 114 0 = ga_push (.int 0) 1 := (congrFun pg_114 0).trans rfl
theorem q_114_0 {L : List Value} {S : List Value} {Z : gZ} {I : gI} {J : gJ} : g_at 114 0 L S Z I J = g_at 114 1 L (.int 0 :: S) Z I J := gq_push e_114_0
theorem e_114_1 : g_Pg 114 1 = ga_istore 2 2 := (congrFun pg_114 1).trans rfl
theorem q_114_1 {l0 l1 l2 l3 : Value} {x : Int32} {S : List Value} {Z : gZ} {I : gI} {J : gJ} (h : gN1 l1 = true) : g_at 114 1 [l0, l1, l2, l3] (.int x :: S) Z I J = g_at 114 2 [l0, l1, .int x, l3] S Z I J := gq_istore e_114_1 h rfl rfl
theorem e_114_2 : g_Pg 114 2 = ga_push (.int 0) 3 := (congrFun pg_114 2).trans rfl
theorem q_114_2 {L : List Value} {S : List Value} {Z : gZ} {I : gI} {J : gJ} : g_at 114 2 L S Z I J = g_at 114 3 L (.int 0 :: S) Z I J := gq_push e_114_2
theorem e_114_3 : g_Pg 114 3 = ga_istore 3 4 := (congrFun pg_114 3).trans rfl
theorem q_114_3 {l0 l1 l2 l3 : Value} {x : Int32} {S : List Value} {Z : gZ} {I : gI} {J : gJ} (h : gN1 l2 = true) : g_at 114 3 [l0, l1, l2, l3] (.int x :: S) Z I J = g_at 114 4 [l0, l1, l2, .int x] S Z I J := gq_istore e_114_3 h rfl rfl
theorem e_114_4 : g_Pg 114 4 = ga_iload 3 5 := (congrFun pg_114 4).trans rfl
theorem q_114_4 {l0 l1 l2 : Value} {x : Int32} {S : List Value} {Z : gZ} {I : gI} {J : gJ} : g_at 114 4 [l0, l1, l2, .int x] S Z I J = g_at 114 5 [l0, l1, l2, .int x] (.int x :: S) Z I J := gq_iload e_114_4 rfl
theorem e_114_5 : g_Pg 114 5 = ga_aload 0 6 := (congrFun pg_114 5).trans rfl
theorem q_114_5 {l1 l2 l3 : Value} {x : Nat} {S : List Value} {Z : gZ} {I : gI} {J : gJ} : g_at 114 5 [.ref x, l1, l2, l3] S Z I J = g_at 114 6 [.ref x, l1, l2, l3] (.ref x :: S) Z I J := gq_aload e_114_5 rfl
theorem e_114_6 : g_Pg 114 6 = ga_getI 7 0 9 := (congrFun pg_114 6).trans rfl
theorem q_114_6 {L : List Value} {a : Nat} {S : List Value} {Z : gZ} {I : gI} {J : gJ} (h : (gKd Z a).1 = 7) : g_at 114 6 L (.ref a :: S) Z I J = g_at 114 9 L (.int (I a 0) :: S) Z I J := gq_getI e_114_6 h
theorem e_114_9 : g_Pg 114 9 = ga_cmp (fun x y => decide (y ≤ x)) 50 12 := (congrFun pg_114 9).trans rfl
theorem q_114_9 {L : List Value} {x y : Int32} {S : List Value} {Z : gZ} {I : gI} {J : gJ} : g_at 114 9 L (.int y :: .int x :: S) Z I J = if y ≤ x then g_at 114 50 L S Z I J else g_at 114 12 L S Z I J := gq_cmp e_114_9 rfl
theorem e_114_12 : g_Pg 114 12 = ga_aload 0 13 := (congrFun pg_114 12).trans rfl
theorem q_114_12 {l1 l2 l3 : Value} {x : Nat} {S : List Value} {Z : gZ} {I : gI} {J : gJ} : g_at 114 12 [.ref x, l1, l2, l3] S Z I J = g_at 114 13 [.ref x, l1, l2, l3] (.ref x :: S) Z I J := gq_aload e_114_12 rfl
theorem e_114_13 : g_Pg 114 13 = ga_getR 7 26 16 := (congrFun pg_114 13).trans rfl
theorem q_114_13 {L : List Value} {a : Nat} {S : List Value} {Z : gZ} {I : gI} {J : gJ} (h : (gKd Z a).1 = 7) (h1 : gRs Z a 26 = true) : g_at 114 13 L (.ref a :: S) Z I J = g_at 114 16 L (.ref (gRq Z a 26) :: S) Z I J := gq_getR e_114_13 h h1
theorem e_114_16 : g_Pg 114 16 = ga_iload 3 17 := (congrFun pg_114 16).trans rfl
theorem q_114_16 {l0 l1 l2 : Value} {x : Int32} {S : List Value} {Z : gZ} {I : gI} {J : gJ} : g_at 114 16 [l0, l1, l2, .int x] S Z I J = g_at 114 17 [l0, l1, l2, .int x] (.int x :: S) Z I J := gq_iload e_114_16 rfl
theorem e_114_17 : g_Pg 114 17 = ga_aload 0 18 := (congrFun pg_114 17).trans rfl
theorem q_114_17 {l1 l2 l3 : Value} {x : Nat} {S : List Value} {Z : gZ} {I : gI} {J : gJ} : g_at 114 17 [.ref x, l1, l2, l3] S Z I J = g_at 114 18 [.ref x, l1, l2, l3] (.ref x :: S) Z I J := gq_aload e_114_17 rfl
theorem e_114_18 : g_Pg 114 18 = ga_iload 1 19 := (congrFun pg_114 18).trans rfl
theorem q_114_18 {l0 l2 l3 : Value} {x : Int32} {S : List Value} {Z : gZ} {I : gI} {J : gJ} : g_at 114 18 [l0, .int x, l2, l3] S Z I J = g_at 114 19 [l0, .int x, l2, l3] (.int x :: S) Z I J := gq_iload e_114_18 rfl
theorem e_114_19 : g_Pg 114 19 = ga_iload 3 20 := (congrFun pg_114 19).trans rfl
theorem q_114_19 {l0 l1 l2 : Value} {x : Int32} {S : List Value} {Z : gZ} {I : gI} {J : gJ} : g_at 114 19 [l0, l1, l2, .int x] S Z I J = g_at 114 20 [l0, l1, l2, .int x] (.int x :: S) Z I J := gq_iload e_114_19 rfl
theorem e_114_20 : g_Pg 114 20 = ga_callV 7 113 2 23 := (congrFun pg_114 20).trans rfl
theorem q_114_20 {L : List Value} {a0 : Int32} {a1 : Int32} {a2 : Nat} {r3 : Int32} {r4 : Nat} {Z : gZ} {I : gI} {J : gJ} (h : (gKd Z a2).1 = 7) : g_at 114 20 L [.int a0, .int a1, .ref a2, .int r3, .ref r4] Z I J = (g_at 113 0 [.ref a2, .int a1, .int a0, .null, .null, .null, .null] [] Z I J).bind (fun r => g_at 114 23 L (r.1.toList ++ [.int r3, .ref r4]) r.2.1 r.2.2.1 r.2.2.2) := gq_callV e_114_20 rfl rfl h rfl rfl rfl rfl rfl
theorem e_114_23 : g_Pg 114 23 = ga_iast 24 := (congrFun pg_114 23).trans rfl
theorem q_114_23 {L : List Value} {a : Nat} {i : Int32} {v : Int32} {S : List Value} {Z : gZ} {I : gI} {J : gJ} (h : (gKd Z a).1 = 8) (h0 : 0 ≤ i) (h1 : i.toNatClampNeg < (gKd Z a).2) : g_at 114 23 L (.int v :: .int i :: .ref a :: S) Z I J = g_at 114 24 L S Z (va_up I a (va_up (I a) i.toNatClampNeg v)) J := gq_iast e_114_23 h h0 h1
theorem e_114_24 : g_Pg 114 24 = ga_iload 2 25 := (congrFun pg_114 24).trans rfl
theorem q_114_24 {l0 l1 l3 : Value} {x : Int32} {S : List Value} {Z : gZ} {I : gI} {J : gJ} : g_at 114 24 [l0, l1, .int x, l3] S Z I J = g_at 114 25 [l0, l1, .int x, l3] (.int x :: S) Z I J := gq_iload e_114_24 rfl
theorem e_114_25 : g_Pg 114 25 = ga_aload 0 26 := (congrFun pg_114 25).trans rfl
theorem q_114_25 {l1 l2 l3 : Value} {x : Nat} {S : List Value} {Z : gZ} {I : gI} {J : gJ} : g_at 114 25 [.ref x, l1, l2, l3] S Z I J = g_at 114 26 [.ref x, l1, l2, l3] (.ref x :: S) Z I J := gq_aload e_114_25 rfl
theorem e_114_26 : g_Pg 114 26 = ga_getR 7 26 29 := (congrFun pg_114 26).trans rfl
theorem q_114_26 {L : List Value} {a : Nat} {S : List Value} {Z : gZ} {I : gI} {J : gJ} (h : (gKd Z a).1 = 7) (h1 : gRs Z a 26 = true) : g_at 114 26 L (.ref a :: S) Z I J = g_at 114 29 L (.ref (gRq Z a 26) :: S) Z I J := gq_getR e_114_26 h h1
theorem e_114_29 : g_Pg 114 29 = ga_iload 3 30 := (congrFun pg_114 29).trans rfl
theorem q_114_29 {l0 l1 l2 : Value} {x : Int32} {S : List Value} {Z : gZ} {I : gI} {J : gJ} : g_at 114 29 [l0, l1, l2, .int x] S Z I J = g_at 114 30 [l0, l1, l2, .int x] (.int x :: S) Z I J := gq_iload e_114_29 rfl
theorem e_114_30 : g_Pg 114 30 = ga_iald 31 := (congrFun pg_114 30).trans rfl
theorem q_114_30 {L : List Value} {a : Nat} {i : Int32} {S : List Value} {Z : gZ} {I : gI} {J : gJ} (h : gTg8 (gKd Z a).1 a = true) (h0 : 0 ≤ i) (h1 : i.toNatClampNeg < (gKd Z a).2) : g_at 114 30 L (.int i :: .ref a :: S) Z I J = g_at 114 31 L (.int (I a i.toNatClampNeg) :: S) Z I J := gq_iald e_114_30 h h0 h1
theorem e_114_31 : g_Pg 114 31 = ga_push (.int (-1)) 32 := (congrFun pg_114 31).trans rfl
theorem q_114_31 {L : List Value} {S : List Value} {Z : gZ} {I : gI} {J : gJ} : g_at 114 31 L S Z I J = g_at 114 32 L (.int (-1) :: S) Z I J := gq_push e_114_31
theorem e_114_32 : g_Pg 114 32 = ga_cmp (fun x y => decide (¬ x = y)) 39 35 := (congrFun pg_114 32).trans rfl
theorem q_114_32 {L : List Value} {x y : Int32} {S : List Value} {Z : gZ} {I : gI} {J : gJ} : g_at 114 32 L (.int y :: .int x :: S) Z I J = if ¬ x = y then g_at 114 39 L S Z I J else g_at 114 35 L S Z I J := gq_cmp e_114_32 rfl
theorem e_114_35 : g_Pg 114 35 = ga_push (.int 0) 36 := (congrFun pg_114 35).trans rfl
theorem q_114_35 {L : List Value} {S : List Value} {Z : gZ} {I : gI} {J : gJ} : g_at 114 35 L S Z I J = g_at 114 36 L (.int 0 :: S) Z I J := gq_push e_114_35
theorem e_114_36 : g_Pg 114 36 = ga_goto 42 := (congrFun pg_114 36).trans rfl
theorem q_114_36 {L : List Value} {S : List Value} {Z : gZ} {I : gI} {J : gJ} : g_at 114 36 L S Z I J = g_at 114 42 L S Z I J := gq_goto e_114_36
theorem e_114_39 : g_Pg 114 39 = ga_push (.int 1) 40 := (congrFun pg_114 39).trans rfl
theorem q_114_39 {L : List Value} {S : List Value} {Z : gZ} {I : gI} {J : gJ} : g_at 114 39 L S Z I J = g_at 114 40 L (.int 1 :: S) Z I J := gq_push e_114_39
theorem e_114_40 : g_Pg 114 40 = ga_iload 3 41 := (congrFun pg_114 40).trans rfl
theorem q_114_40 {l0 l1 l2 : Value} {x : Int32} {S : List Value} {Z : gZ} {I : gI} {J : gJ} : g_at 114 40 [l0, l1, l2, .int x] S Z I J = g_at 114 41 [l0, l1, l2, .int x] (.int x :: S) Z I J := gq_iload e_114_40 rfl
theorem e_114_41 : g_Pg 114 41 = ga_bin (fun x y => x <<< (y &&& 31)) 42 := (congrFun pg_114 41).trans rfl
theorem q_114_41 {L : List Value} {x y : Int32} {S : List Value} {Z : gZ} {I : gI} {J : gJ} : g_at 114 41 L (.int y :: .int x :: S) Z I J = g_at 114 42 L (.int (x <<< (y &&& 31)) :: S) Z I J := gq_bin e_114_41
theorem e_114_42 : g_Pg 114 42 = ga_bin (fun x y => x ||| y) 43 := (congrFun pg_114 42).trans rfl
theorem q_114_42 {L : List Value} {x y : Int32} {S : List Value} {Z : gZ} {I : gI} {J : gJ} : g_at 114 42 L (.int y :: .int x :: S) Z I J = g_at 114 43 L (.int (x ||| y) :: S) Z I J := gq_bin e_114_42
theorem e_114_43 : g_Pg 114 43 = ga_istore 2 44 := (congrFun pg_114 43).trans rfl
theorem q_114_43 {l0 l1 l2 l3 : Value} {x : Int32} {S : List Value} {Z : gZ} {I : gI} {J : gJ} (h : gN1 l1 = true) : g_at 114 43 [l0, l1, l2, l3] (.int x :: S) Z I J = g_at 114 44 [l0, l1, .int x, l3] S Z I J := gq_istore e_114_43 h rfl rfl
theorem e_114_44 : g_Pg 114 44 = ga_iinc 3 1 47 := (congrFun pg_114 44).trans rfl
theorem q_114_44 {l0 l1 l2 : Value} {x : Int32} {S : List Value} {Z : gZ} {I : gI} {J : gJ} (h : gN1 l2 = true) : g_at 114 44 [l0, l1, l2, .int x] S Z I J = g_at 114 47 [l0, l1, l2, .int (x + 1)] S Z I J := gq_iinc e_114_44 rfl h rfl
theorem e_114_47 : g_Pg 114 47 = ga_goto 4 := (congrFun pg_114 47).trans rfl
theorem q_114_47 {L : List Value} {S : List Value} {Z : gZ} {I : gI} {J : gJ} : g_at 114 47 L S Z I J = g_at 114 4 L S Z I J := gq_goto e_114_47
theorem e_114_50 : g_Pg 114 50 = ga_iload 2 51 := (congrFun pg_114 50).trans rfl
theorem q_114_50 {l0 l1 l3 : Value} {x : Int32} {S : List Value} {Z : gZ} {I : gI} {J : gJ} : g_at 114 50 [l0, l1, .int x, l3] S Z I J = g_at 114 51 [l0, l1, .int x, l3] (.int x :: S) Z I J := gq_iload e_114_50 rfl
theorem e_114_51 : g_Pg 114 51 = ga_iret := (congrFun pg_114 51).trans rfl
theorem q_114_51 {L : List Value} {x : Int32} {Z : gZ} {I : gI} {J : gJ} : g_at 114 51 L [.int x] Z I J = some (some (.int x), Z, I, J) := gq_iret e_114_51
theorem e_115_0 : g_Pg 115 0 = ga_aload 0 1 := (congrFun pg_115 0).trans rfl
theorem q_115_0 {l1 l2 : Value} {x : Nat} {S : List Value} {Z : gZ} {I : gI} {J : gJ} : g_at 115 0 [.ref x, l1, l2] S Z I J = g_at 115 1 [.ref x, l1, l2] (.ref x :: S) Z I J := gq_aload e_115_0 rfl
theorem e_115_1 : g_Pg 115 1 = ga_iload 1 2 := (congrFun pg_115 1).trans rfl
theorem q_115_1 {l0 l2 : Value} {x : Int32} {S : List Value} {Z : gZ} {I : gI} {J : gJ} : g_at 115 1 [l0, .int x, l2] S Z I J = g_at 115 2 [l0, .int x, l2] (.int x :: S) Z I J := gq_iload e_115_1 rfl
theorem e_115_2 : g_Pg 115 2 = ga_callV 7 85 1 5 := (congrFun pg_115 2).trans rfl
theorem q_115_2 {L : List Value} {a0 : Int32} {a1 : Nat} {Z : gZ} {I : gI} {J : gJ} (h : (gKd Z a1).1 = 7) : g_at 115 2 L [.int a0, .ref a1] Z I J = (g_at 85 0 [.ref a1, .int a0] [] Z I J).bind (fun r => g_at 115 5 L (r.1.toList ++ []) r.2.1 r.2.2.1 r.2.2.2) := gq_callV e_115_2 rfl rfl h rfl rfl rfl rfl rfl
theorem e_115_5 : g_Pg 115 5 = ga_if (fun x => decide (x = 0)) 25 8 := (congrFun pg_115 5).trans rfl
theorem q_115_5 {L : List Value} {x : Int32} {S : List Value} {Z : gZ} {I : gI} {J : gJ} : g_at 115 5 L (.int x :: S) Z I J = if x = 0 then g_at 115 25 L S Z I J else g_at 115 8 L S Z I J := gq_if e_115_5 rfl
theorem e_115_8 : g_Pg 115 8 = ga_aload 0 9 := (congrFun pg_115 8).trans rfl
theorem q_115_8 {l1 l2 : Value} {x : Nat} {S : List Value} {Z : gZ} {I : gI} {J : gJ} : g_at 115 8 [.ref x, l1, l2] S Z I J = g_at 115 9 [.ref x, l1, l2] (.ref x :: S) Z I J := gq_aload e_115_8 rfl
theorem e_115_9 : g_Pg 115 9 = ga_iload 2 10 := (congrFun pg_115 9).trans rfl
theorem q_115_9 {l0 l1 : Value} {x : Int32} {S : List Value} {Z : gZ} {I : gI} {J : gJ} : g_at 115 9 [l0, l1, .int x] S Z I J = g_at 115 10 [l0, l1, .int x] (.int x :: S) Z I J := gq_iload e_115_9 rfl
theorem e_115_10 : g_Pg 115 10 = ga_callV 7 85 1 13 := (congrFun pg_115 10).trans rfl
theorem q_115_10 {L : List Value} {a0 : Int32} {a1 : Nat} {Z : gZ} {I : gI} {J : gJ} (h : (gKd Z a1).1 = 7) : g_at 115 10 L [.int a0, .ref a1] Z I J = (g_at 85 0 [.ref a1, .int a0] [] Z I J).bind (fun r => g_at 115 13 L (r.1.toList ++ []) r.2.1 r.2.2.1 r.2.2.2) := gq_callV e_115_10 rfl rfl h rfl rfl rfl rfl rfl
theorem e_115_13 : g_Pg 115 13 = ga_if (fun x => decide (x = 0)) 25 16 := (congrFun pg_115 13).trans rfl
theorem q_115_13 {L : List Value} {x : Int32} {S : List Value} {Z : gZ} {I : gI} {J : gJ} : g_at 115 13 L (.int x :: S) Z I J = if x = 0 then g_at 115 25 L S Z I J else g_at 115 16 L S Z I J := gq_if e_115_13 rfl
theorem e_115_16 : g_Pg 115 16 = ga_aload 0 17 := (congrFun pg_115 16).trans rfl
theorem q_115_16 {l1 l2 : Value} {x : Nat} {S : List Value} {Z : gZ} {I : gI} {J : gJ} : g_at 115 16 [.ref x, l1, l2] S Z I J = g_at 115 17 [.ref x, l1, l2] (.ref x :: S) Z I J := gq_aload e_115_16 rfl
theorem e_115_17 : g_Pg 115 17 = ga_iload 1 18 := (congrFun pg_115 17).trans rfl
theorem q_115_17 {l0 l2 : Value} {x : Int32} {S : List Value} {Z : gZ} {I : gI} {J : gJ} : g_at 115 17 [l0, .int x, l2] S Z I J = g_at 115 18 [l0, .int x, l2] (.int x :: S) Z I J := gq_iload e_115_17 rfl
theorem e_115_18 : g_Pg 115 18 = ga_iload 2 19 := (congrFun pg_115 18).trans rfl
theorem q_115_18 {l0 l1 : Value} {x : Int32} {S : List Value} {Z : gZ} {I : gI} {J : gJ} : g_at 115 18 [l0, l1, .int x] S Z I J = g_at 115 19 [l0, l1, .int x] (.int x :: S) Z I J := gq_iload e_115_18 rfl
theorem e_115_19 : g_Pg 115 19 = ga_callV 7 113 2 22 := (congrFun pg_115 19).trans rfl
theorem q_115_19 {L : List Value} {a0 : Int32} {a1 : Int32} {a2 : Nat} {Z : gZ} {I : gI} {J : gJ} (h : (gKd Z a2).1 = 7) : g_at 115 19 L [.int a0, .int a1, .ref a2] Z I J = (g_at 113 0 [.ref a2, .int a1, .int a0, .null, .null, .null, .null] [] Z I J).bind (fun r => g_at 115 22 L (r.1.toList ++ []) r.2.1 r.2.2.1 r.2.2.2) := gq_callV e_115_19 rfl rfl h rfl rfl rfl rfl rfl
theorem e_115_22 : g_Pg 115 22 = ga_goto 27 := (congrFun pg_115 22).trans rfl
theorem q_115_22 {L : List Value} {S : List Value} {Z : gZ} {I : gI} {J : gJ} : g_at 115 22 L S Z I J = g_at 115 27 L S Z I J := gq_goto e_115_22
theorem e_115_25 : g_Pg 115 25 = ga_push (.int (-2)) 27 := (congrFun pg_115 25).trans rfl
theorem q_115_25 {L : List Value} {S : List Value} {Z : gZ} {I : gI} {J : gJ} : g_at 115 25 L S Z I J = g_at 115 27 L (.int (-2) :: S) Z I J := gq_push e_115_25
theorem e_115_27 : g_Pg 115 27 = ga_iret := (congrFun pg_115 27).trans rfl
theorem q_115_27 {L : List Value} {x : Int32} {Z : gZ} {I : gI} {J : gJ} : g_at 115 27 L [.int x] Z I J = some (some (.int x), Z, I, J) := gq_iret e_115_27
theorem e_116_0 : g_Pg 116 0 = ga_aload 0 1 := (congrFun pg_116 0).trans rfl
theorem q_116_0 {l1 : Value} {x : Nat} {S : List Value} {Z : gZ} {I : gI} {J : gJ} : g_at 116 0 [.ref x, l1] S Z I J = g_at 116 1 [.ref x, l1] (.ref x :: S) Z I J := gq_aload e_116_0 rfl
theorem e_116_1 : g_Pg 116 1 = ga_iload 1 2 := (congrFun pg_116 1).trans rfl
theorem q_116_1 {l0 : Value} {x : Int32} {S : List Value} {Z : gZ} {I : gI} {J : gJ} : g_at 116 1 [l0, .int x] S Z I J = g_at 116 2 [l0, .int x] (.int x :: S) Z I J := gq_iload e_116_1 rfl
theorem e_116_2 : g_Pg 116 2 = ga_callV 7 85 1 5 := (congrFun pg_116 2).trans rfl
theorem q_116_2 {L : List Value} {a0 : Int32} {a1 : Nat} {Z : gZ} {I : gI} {J : gJ} (h : (gKd Z a1).1 = 7) : g_at 116 2 L [.int a0, .ref a1] Z I J = (g_at 85 0 [.ref a1, .int a0] [] Z I J).bind (fun r => g_at 116 5 L (r.1.toList ++ []) r.2.1 r.2.2.1 r.2.2.2) := gq_callV e_116_2 rfl rfl h rfl rfl rfl rfl rfl
theorem e_116_5 : g_Pg 116 5 = ga_if (fun x => decide (x = 0)) 16 8 := (congrFun pg_116 5).trans rfl
theorem q_116_5 {L : List Value} {x : Int32} {S : List Value} {Z : gZ} {I : gI} {J : gJ} : g_at 116 5 L (.int x :: S) Z I J = if x = 0 then g_at 116 16 L S Z I J else g_at 116 8 L S Z I J := gq_if e_116_5 rfl
theorem e_116_8 : g_Pg 116 8 = ga_aload 0 9 := (congrFun pg_116 8).trans rfl
theorem q_116_8 {l1 : Value} {x : Nat} {S : List Value} {Z : gZ} {I : gI} {J : gJ} : g_at 116 8 [.ref x, l1] S Z I J = g_at 116 9 [.ref x, l1] (.ref x :: S) Z I J := gq_aload e_116_8 rfl
theorem e_116_9 : g_Pg 116 9 = ga_iload 1 10 := (congrFun pg_116 9).trans rfl
theorem q_116_9 {l0 : Value} {x : Int32} {S : List Value} {Z : gZ} {I : gI} {J : gJ} : g_at 116 9 [l0, .int x] S Z I J = g_at 116 10 [l0, .int x] (.int x :: S) Z I J := gq_iload e_116_9 rfl
theorem e_116_10 : g_Pg 116 10 = ga_callV 7 114 1 13 := (congrFun pg_116 10).trans rfl
theorem q_116_10 {L : List Value} {a0 : Int32} {a1 : Nat} {Z : gZ} {I : gI} {J : gJ} (h : (gKd Z a1).1 = 7) : g_at 116 10 L [.int a0, .ref a1] Z I J = (g_at 114 0 [.ref a1, .int a0, .null, .null] [] Z I J).bind (fun r => g_at 116 13 L (r.1.toList ++ []) r.2.1 r.2.2.1 r.2.2.2) := gq_callV e_116_10 rfl rfl h rfl rfl rfl rfl rfl
theorem e_116_13 : g_Pg 116 13 = ga_goto 18 := (congrFun pg_116 13).trans rfl
theorem q_116_13 {L : List Value} {S : List Value} {Z : gZ} {I : gI} {J : gJ} : g_at 116 13 L S Z I J = g_at 116 18 L S Z I J := gq_goto e_116_13
theorem e_116_16 : g_Pg 116 16 = ga_push (.int (-2)) 18 := (congrFun pg_116 16).trans rfl
theorem q_116_16 {L : List Value} {S : List Value} {Z : gZ} {I : gI} {J : gJ} : g_at 116 16 L S Z I J = g_at 116 18 L (.int (-2) :: S) Z I J := gq_push e_116_16
theorem e_116_18 : g_Pg 116 18 = ga_iret := (congrFun pg_116 18).trans rfl
theorem q_116_18 {L : List Value} {x : Int32} {Z : gZ} {I : gI} {J : gJ} : g_at 116 18 L [.int x] Z I J = some (some (.int x), Z, I, J) := gq_iret e_116_18
theorem e_117_0 : g_Pg 117 0 = ga_aload 0 1 := (congrFun pg_117 0).trans rfl
theorem q_117_0 {l1 l2 l3 : Value} {x : Nat} {S : List Value} {Z : gZ} {I : gI} {J : gJ} : g_at 117 0 [.ref x, l1, l2, l3] S Z I J = g_at 117 1 [.ref x, l1, l2, l3] (.ref x :: S) Z I J := gq_aload e_117_0 rfl
theorem e_117_1 : g_Pg 117 1 = ga_iload 1 2 := (congrFun pg_117 1).trans rfl
theorem q_117_1 {l0 l2 l3 : Value} {x : Int32} {S : List Value} {Z : gZ} {I : gI} {J : gJ} : g_at 117 1 [l0, .int x, l2, l3] S Z I J = g_at 117 2 [l0, .int x, l2, l3] (.int x :: S) Z I J := gq_iload e_117_1 rfl
theorem e_117_2 : g_Pg 117 2 = ga_callV 7 85 1 5 := (congrFun pg_117 2).trans rfl
theorem q_117_2 {L : List Value} {a0 : Int32} {a1 : Nat} {Z : gZ} {I : gI} {J : gJ} (h : (gKd Z a1).1 = 7) : g_at 117 2 L [.int a0, .ref a1] Z I J = (g_at 85 0 [.ref a1, .int a0] [] Z I J).bind (fun r => g_at 117 5 L (r.1.toList ++ []) r.2.1 r.2.2.1 r.2.2.2) := gq_callV e_117_2 rfl rfl h rfl rfl rfl rfl rfl
theorem e_117_5 : g_Pg 117 5 = ga_if (fun x => decide (¬ x = 0)) 11 8 := (congrFun pg_117 5).trans rfl
theorem q_117_5 {L : List Value} {x : Int32} {S : List Value} {Z : gZ} {I : gI} {J : gJ} : g_at 117 5 L (.int x :: S) Z I J = if ¬ x = 0 then g_at 117 11 L S Z I J else g_at 117 8 L S Z I J := gq_if e_117_5 rfl
theorem e_117_8 : g_Pg 117 8 = ga_push (.int (-2)) 10 := (congrFun pg_117 8).trans rfl
theorem q_117_8 {L : List Value} {S : List Value} {Z : gZ} {I : gI} {J : gJ} : g_at 117 8 L S Z I J = g_at 117 10 L (.int (-2) :: S) Z I J := gq_push e_117_8
theorem e_117_10 : g_Pg 117 10 = ga_iret := (congrFun pg_117 10).trans rfl
theorem q_117_10 {L : List Value} {x : Int32} {Z : gZ} {I : gI} {J : gJ} : g_at 117 10 L [.int x] Z I J = some (some (.int x), Z, I, J) := gq_iret e_117_10
theorem e_117_11 : g_Pg 117 11 = ga_aload 0 12 := (congrFun pg_117 11).trans rfl
theorem q_117_11 {l1 l2 l3 : Value} {x : Nat} {S : List Value} {Z : gZ} {I : gI} {J : gJ} : g_at 117 11 [.ref x, l1, l2, l3] S Z I J = g_at 117 12 [.ref x, l1, l2, l3] (.ref x :: S) Z I J := gq_aload e_117_11 rfl
theorem e_117_12 : g_Pg 117 12 = ga_iload 1 13 := (congrFun pg_117 12).trans rfl
theorem q_117_12 {l0 l2 l3 : Value} {x : Int32} {S : List Value} {Z : gZ} {I : gI} {J : gJ} : g_at 117 12 [l0, .int x, l2, l3] S Z I J = g_at 117 13 [l0, .int x, l2, l3] (.int x :: S) Z I J := gq_iload e_117_12 rfl
theorem e_117_13 : g_Pg 117 13 = ga_callV 7 112 1 16 := (congrFun pg_117 13).trans rfl
theorem q_117_13 {L : List Value} {a0 : Int32} {a1 : Nat} {Z : gZ} {I : gI} {J : gJ} (h : (gKd Z a1).1 = 7) : g_at 117 13 L [.int a0, .ref a1] Z I J = (g_at 112 0 [.ref a1, .int a0, .null, .null, .null] [] Z I J).bind (fun r => g_at 117 16 L (r.1.toList ++ []) r.2.1 r.2.2.1 r.2.2.2) := gq_callV e_117_13 rfl rfl h rfl rfl rfl rfl rfl
theorem e_117_16 : g_Pg 117 16 = ga_push (.int (-1)) 17 := (congrFun pg_117 16).trans rfl
theorem q_117_16 {L : List Value} {S : List Value} {Z : gZ} {I : gI} {J : gJ} : g_at 117 16 L S Z I J = g_at 117 17 L (.int (-1) :: S) Z I J := gq_push e_117_16
theorem e_117_17 : g_Pg 117 17 = ga_cmp (fun x y => decide (x = y)) 22 20 := (congrFun pg_117 17).trans rfl
theorem q_117_17 {L : List Value} {x y : Int32} {S : List Value} {Z : gZ} {I : gI} {J : gJ} : g_at 117 17 L (.int y :: .int x :: S) Z I J = if x = y then g_at 117 22 L S Z I J else g_at 117 20 L S Z I J := gq_cmp e_117_17 rfl
theorem e_117_20 : g_Pg 117 20 = ga_push (.int (-1)) 21 := (congrFun pg_117 20).trans rfl
theorem q_117_20 {L : List Value} {S : List Value} {Z : gZ} {I : gI} {J : gJ} : g_at 117 20 L S Z I J = g_at 117 21 L (.int (-1) :: S) Z I J := gq_push e_117_20
theorem e_117_21 : g_Pg 117 21 = ga_iret := (congrFun pg_117 21).trans rfl
theorem q_117_21 {L : List Value} {x : Int32} {Z : gZ} {I : gI} {J : gJ} : g_at 117 21 L [.int x] Z I J = some (some (.int x), Z, I, J) := gq_iret e_117_21
theorem e_117_22 : g_Pg 117 22 = ga_aload 0 23 := (congrFun pg_117 22).trans rfl
theorem q_117_22 {l1 l2 l3 : Value} {x : Nat} {S : List Value} {Z : gZ} {I : gI} {J : gJ} : g_at 117 22 [.ref x, l1, l2, l3] S Z I J = g_at 117 23 [.ref x, l1, l2, l3] (.ref x :: S) Z I J := gq_aload e_117_22 rfl
theorem e_117_23 : g_Pg 117 23 = ga_iload 1 24 := (congrFun pg_117 23).trans rfl
theorem q_117_23 {l0 l2 l3 : Value} {x : Int32} {S : List Value} {Z : gZ} {I : gI} {J : gJ} : g_at 117 23 [l0, .int x, l2, l3] S Z I J = g_at 117 24 [l0, .int x, l2, l3] (.int x :: S) Z I J := gq_iload e_117_23 rfl
theorem e_117_24 : g_Pg 117 24 = ga_callV 7 114 1 27 := (congrFun pg_117 24).trans rfl
theorem q_117_24 {L : List Value} {a0 : Int32} {a1 : Nat} {Z : gZ} {I : gI} {J : gJ} (h : (gKd Z a1).1 = 7) : g_at 117 24 L [.int a0, .ref a1] Z I J = (g_at 114 0 [.ref a1, .int a0, .null, .null] [] Z I J).bind (fun r => g_at 117 27 L (r.1.toList ++ []) r.2.1 r.2.2.1 r.2.2.2) := gq_callV e_117_24 rfl rfl h rfl rfl rfl rfl rfl
theorem e_117_27 : g_Pg 117 27 = ga_pop 28 := (congrFun pg_117 27).trans rfl
theorem q_117_27 {L : List Value} {x : Int32} {S : List Value} {Z : gZ} {I : gI} {J : gJ} : g_at 117 27 L (.int x :: S) Z I J = g_at 117 28 L S Z I J := gq_pop e_117_27
theorem e_117_28 : g_Pg 117 28 = ga_push (.int 0) 29 := (congrFun pg_117 28).trans rfl
theorem q_117_28 {L : List Value} {S : List Value} {Z : gZ} {I : gI} {J : gJ} : g_at 117 28 L S Z I J = g_at 117 29 L (.int 0 :: S) Z I J := gq_push e_117_28
theorem e_117_29 : g_Pg 117 29 = ga_istore 2 30 := (congrFun pg_117 29).trans rfl
theorem q_117_29 {l0 l1 l2 l3 : Value} {x : Int32} {S : List Value} {Z : gZ} {I : gI} {J : gJ} (h : gN1 l1 = true) : g_at 117 29 [l0, l1, l2, l3] (.int x :: S) Z I J = g_at 117 30 [l0, l1, .int x, l3] S Z I J := gq_istore e_117_29 h rfl rfl
theorem e_117_30 : g_Pg 117 30 = ga_push (.int 0) 31 := (congrFun pg_117 30).trans rfl
theorem q_117_30 {L : List Value} {S : List Value} {Z : gZ} {I : gI} {J : gJ} : g_at 117 30 L S Z I J = g_at 117 31 L (.int 0 :: S) Z I J := gq_push e_117_30
theorem e_117_31 : g_Pg 117 31 = ga_istore 3 32 := (congrFun pg_117 31).trans rfl
theorem q_117_31 {l0 l1 l2 l3 : Value} {x : Int32} {S : List Value} {Z : gZ} {I : gI} {J : gJ} (h : gN1 l2 = true) : g_at 117 31 [l0, l1, l2, l3] (.int x :: S) Z I J = g_at 117 32 [l0, l1, l2, .int x] S Z I J := gq_istore e_117_31 h rfl rfl
theorem e_117_32 : g_Pg 117 32 = ga_iload 3 33 := (congrFun pg_117 32).trans rfl
theorem q_117_32 {l0 l1 l2 : Value} {x : Int32} {S : List Value} {Z : gZ} {I : gI} {J : gJ} : g_at 117 32 [l0, l1, l2, .int x] S Z I J = g_at 117 33 [l0, l1, l2, .int x] (.int x :: S) Z I J := gq_iload e_117_32 rfl
theorem e_117_33 : g_Pg 117 33 = ga_aload 0 34 := (congrFun pg_117 33).trans rfl
theorem q_117_33 {l1 l2 l3 : Value} {x : Nat} {S : List Value} {Z : gZ} {I : gI} {J : gJ} : g_at 117 33 [.ref x, l1, l2, l3] S Z I J = g_at 117 34 [.ref x, l1, l2, l3] (.ref x :: S) Z I J := gq_aload e_117_33 rfl
theorem e_117_34 : g_Pg 117 34 = ga_getI 7 0 37 := (congrFun pg_117 34).trans rfl
theorem q_117_34 {L : List Value} {a : Nat} {S : List Value} {Z : gZ} {I : gI} {J : gJ} (h : (gKd Z a).1 = 7) : g_at 117 34 L (.ref a :: S) Z I J = g_at 117 37 L (.int (I a 0) :: S) Z I J := gq_getI e_117_34 h
theorem e_117_37 : g_Pg 117 37 = ga_cmp (fun x y => decide (y ≤ x)) 67 40 := (congrFun pg_117 37).trans rfl
theorem q_117_37 {L : List Value} {x y : Int32} {S : List Value} {Z : gZ} {I : gI} {J : gJ} : g_at 117 37 L (.int y :: .int x :: S) Z I J = if y ≤ x then g_at 117 67 L S Z I J else g_at 117 40 L S Z I J := gq_cmp e_117_37 rfl
theorem e_117_40 : g_Pg 117 40 = ga_aload 0 41 := (congrFun pg_117 40).trans rfl
theorem q_117_40 {l1 l2 l3 : Value} {x : Nat} {S : List Value} {Z : gZ} {I : gI} {J : gJ} : g_at 117 40 [.ref x, l1, l2, l3] S Z I J = g_at 117 41 [.ref x, l1, l2, l3] (.ref x :: S) Z I J := gq_aload e_117_40 rfl
theorem e_117_41 : g_Pg 117 41 = ga_getR 7 26 44 := (congrFun pg_117 41).trans rfl
theorem q_117_41 {L : List Value} {a : Nat} {S : List Value} {Z : gZ} {I : gI} {J : gJ} (h : (gKd Z a).1 = 7) (h1 : gRs Z a 26 = true) : g_at 117 41 L (.ref a :: S) Z I J = g_at 117 44 L (.ref (gRq Z a 26) :: S) Z I J := gq_getR e_117_41 h h1
theorem e_117_44 : g_Pg 117 44 = ga_iload 3 45 := (congrFun pg_117 44).trans rfl
theorem q_117_44 {l0 l1 l2 : Value} {x : Int32} {S : List Value} {Z : gZ} {I : gI} {J : gJ} : g_at 117 44 [l0, l1, l2, .int x] S Z I J = g_at 117 45 [l0, l1, l2, .int x] (.int x :: S) Z I J := gq_iload e_117_44 rfl
theorem e_117_45 : g_Pg 117 45 = ga_iald 46 := (congrFun pg_117 45).trans rfl
theorem q_117_45 {L : List Value} {a : Nat} {i : Int32} {S : List Value} {Z : gZ} {I : gI} {J : gJ} (h : gTg8 (gKd Z a).1 a = true) (h0 : 0 ≤ i) (h1 : i.toNatClampNeg < (gKd Z a).2) : g_at 117 45 L (.int i :: .ref a :: S) Z I J = g_at 117 46 L (.int (I a i.toNatClampNeg) :: S) Z I J := gq_iald e_117_45 h h0 h1
theorem e_117_46 : g_Pg 117 46 = ga_iload 2 47 := (congrFun pg_117 46).trans rfl
theorem q_117_46 {l0 l1 l3 : Value} {x : Int32} {S : List Value} {Z : gZ} {I : gI} {J : gJ} : g_at 117 46 [l0, l1, .int x, l3] S Z I J = g_at 117 47 [l0, l1, .int x, l3] (.int x :: S) Z I J := gq_iload e_117_46 rfl
theorem e_117_47 : g_Pg 117 47 = ga_cmp (fun x y => decide (x ≤ y)) 59 50 := (congrFun pg_117 47).trans rfl
theorem q_117_47 {L : List Value} {x y : Int32} {S : List Value} {Z : gZ} {I : gI} {J : gJ} : g_at 117 47 L (.int y :: .int x :: S) Z I J = if x ≤ y then g_at 117 59 L S Z I J else g_at 117 50 L S Z I J := gq_cmp e_117_47 rfl
theorem e_117_50 : g_Pg 117 50 = ga_aload 0 51 := (congrFun pg_117 50).trans rfl
theorem q_117_50 {l1 l2 l3 : Value} {x : Nat} {S : List Value} {Z : gZ} {I : gI} {J : gJ} : g_at 117 50 [.ref x, l1, l2, l3] S Z I J = g_at 117 51 [.ref x, l1, l2, l3] (.ref x :: S) Z I J := gq_aload e_117_50 rfl
theorem e_117_51 : g_Pg 117 51 = ga_getR 7 26 54 := (congrFun pg_117 51).trans rfl
theorem q_117_51 {L : List Value} {a : Nat} {S : List Value} {Z : gZ} {I : gI} {J : gJ} (h : (gKd Z a).1 = 7) (h1 : gRs Z a 26 = true) : g_at 117 51 L (.ref a :: S) Z I J = g_at 117 54 L (.ref (gRq Z a 26) :: S) Z I J := gq_getR e_117_51 h h1
theorem e_117_54 : g_Pg 117 54 = ga_iload 3 55 := (congrFun pg_117 54).trans rfl
theorem q_117_54 {l0 l1 l2 : Value} {x : Int32} {S : List Value} {Z : gZ} {I : gI} {J : gJ} : g_at 117 54 [l0, l1, l2, .int x] S Z I J = g_at 117 55 [l0, l1, l2, .int x] (.int x :: S) Z I J := gq_iload e_117_54 rfl
theorem e_117_55 : g_Pg 117 55 = ga_iald 56 := (congrFun pg_117 55).trans rfl
theorem q_117_55 {L : List Value} {a : Nat} {i : Int32} {S : List Value} {Z : gZ} {I : gI} {J : gJ} (h : gTg8 (gKd Z a).1 a = true) (h0 : 0 ≤ i) (h1 : i.toNatClampNeg < (gKd Z a).2) : g_at 117 55 L (.int i :: .ref a :: S) Z I J = g_at 117 56 L (.int (I a i.toNatClampNeg) :: S) Z I J := gq_iald e_117_55 h h0 h1
theorem e_117_56 : g_Pg 117 56 = ga_goto 60 := (congrFun pg_117 56).trans rfl
theorem q_117_56 {L : List Value} {S : List Value} {Z : gZ} {I : gI} {J : gJ} : g_at 117 56 L S Z I J = g_at 117 60 L S Z I J := gq_goto e_117_56
theorem e_117_59 : g_Pg 117 59 = ga_iload 2 60 := (congrFun pg_117 59).trans rfl
theorem q_117_59 {l0 l1 l3 : Value} {x : Int32} {S : List Value} {Z : gZ} {I : gI} {J : gJ} : g_at 117 59 [l0, l1, .int x, l3] S Z I J = g_at 117 60 [l0, l1, .int x, l3] (.int x :: S) Z I J := gq_iload e_117_59 rfl
theorem e_117_60 : g_Pg 117 60 = ga_istore 2 61 := (congrFun pg_117 60).trans rfl
theorem q_117_60 {l0 l1 l2 l3 : Value} {x : Int32} {S : List Value} {Z : gZ} {I : gI} {J : gJ} (h : gN1 l1 = true) : g_at 117 60 [l0, l1, l2, l3] (.int x :: S) Z I J = g_at 117 61 [l0, l1, .int x, l3] S Z I J := gq_istore e_117_60 h rfl rfl
theorem e_117_61 : g_Pg 117 61 = ga_iinc 3 1 64 := (congrFun pg_117 61).trans rfl
theorem q_117_61 {l0 l1 l2 : Value} {x : Int32} {S : List Value} {Z : gZ} {I : gI} {J : gJ} (h : gN1 l2 = true) : g_at 117 61 [l0, l1, l2, .int x] S Z I J = g_at 117 64 [l0, l1, l2, .int (x + 1)] S Z I J := gq_iinc e_117_61 rfl h rfl
theorem e_117_64 : g_Pg 117 64 = ga_goto 32 := (congrFun pg_117 64).trans rfl
theorem q_117_64 {L : List Value} {S : List Value} {Z : gZ} {I : gI} {J : gJ} : g_at 117 64 L S Z I J = g_at 117 32 L S Z I J := gq_goto e_117_64
theorem e_117_67 : g_Pg 117 67 = ga_iload 2 68 := (congrFun pg_117 67).trans rfl
theorem q_117_67 {l0 l1 l3 : Value} {x : Int32} {S : List Value} {Z : gZ} {I : gI} {J : gJ} : g_at 117 67 [l0, l1, .int x, l3] S Z I J = g_at 117 68 [l0, l1, .int x, l3] (.int x :: S) Z I J := gq_iload e_117_67 rfl
theorem e_117_68 : g_Pg 117 68 = ga_iret := (congrFun pg_117 68).trans rfl
theorem q_117_68 {L : List Value} {x : Int32} {Z : gZ} {I : gI} {J : gJ} : g_at 117 68 L [.int x] Z I J = some (some (.int x), Z, I, J) := gq_iret e_117_68
theorem e_118_0 : g_Pg 118 0 = ga_aload 0 1 := (congrFun pg_118 0).trans rfl
theorem q_118_0 {l1 : Value} {x : Nat} {S : List Value} {Z : gZ} {I : gI} {J : gJ} : g_at 118 0 [.ref x, l1] S Z I J = g_at 118 1 [.ref x, l1] (.ref x :: S) Z I J := gq_aload e_118_0 rfl
theorem e_118_1 : g_Pg 118 1 = ga_iload 1 2 := (congrFun pg_118 1).trans rfl
theorem q_118_1 {l0 : Value} {x : Int32} {S : List Value} {Z : gZ} {I : gI} {J : gJ} : g_at 118 1 [l0, .int x] S Z I J = g_at 118 2 [l0, .int x] (.int x :: S) Z I J := gq_iload e_118_1 rfl
theorem e_118_2 : g_Pg 118 2 = ga_callV 7 85 1 5 := (congrFun pg_118 2).trans rfl
theorem q_118_2 {L : List Value} {a0 : Int32} {a1 : Nat} {Z : gZ} {I : gI} {J : gJ} (h : (gKd Z a1).1 = 7) : g_at 118 2 L [.int a0, .ref a1] Z I J = (g_at 85 0 [.ref a1, .int a0] [] Z I J).bind (fun r => g_at 118 5 L (r.1.toList ++ []) r.2.1 r.2.2.1 r.2.2.2) := gq_callV e_118_2 rfl rfl h rfl rfl rfl rfl rfl
theorem e_118_5 : g_Pg 118 5 = ga_if (fun x => decide (x = 0)) 16 8 := (congrFun pg_118 5).trans rfl
theorem q_118_5 {L : List Value} {x : Int32} {S : List Value} {Z : gZ} {I : gI} {J : gJ} : g_at 118 5 L (.int x :: S) Z I J = if x = 0 then g_at 118 16 L S Z I J else g_at 118 8 L S Z I J := gq_if e_118_5 rfl
theorem e_118_8 : g_Pg 118 8 = ga_aload 0 9 := (congrFun pg_118 8).trans rfl
theorem q_118_8 {l1 : Value} {x : Nat} {S : List Value} {Z : gZ} {I : gI} {J : gJ} : g_at 118 8 [.ref x, l1] S Z I J = g_at 118 9 [.ref x, l1] (.ref x :: S) Z I J := gq_aload e_118_8 rfl
theorem e_118_9 : g_Pg 118 9 = ga_iload 1 10 := (congrFun pg_118 9).trans rfl
theorem q_118_9 {l0 : Value} {x : Int32} {S : List Value} {Z : gZ} {I : gI} {J : gJ} : g_at 118 9 [l0, .int x] S Z I J = g_at 118 10 [l0, .int x] (.int x :: S) Z I J := gq_iload e_118_9 rfl
theorem e_118_10 : g_Pg 118 10 = ga_callV 7 112 1 13 := (congrFun pg_118 10).trans rfl
theorem q_118_10 {L : List Value} {a0 : Int32} {a1 : Nat} {Z : gZ} {I : gI} {J : gJ} (h : (gKd Z a1).1 = 7) : g_at 118 10 L [.int a0, .ref a1] Z I J = (g_at 112 0 [.ref a1, .int a0, .null, .null, .null] [] Z I J).bind (fun r => g_at 118 13 L (r.1.toList ++ []) r.2.1 r.2.2.1 r.2.2.2) := gq_callV e_118_10 rfl rfl h rfl rfl rfl rfl rfl
theorem e_118_13 : g_Pg 118 13 = ga_goto 18 := (congrFun pg_118 13).trans rfl
theorem q_118_13 {L : List Value} {S : List Value} {Z : gZ} {I : gI} {J : gJ} : g_at 118 13 L S Z I J = g_at 118 18 L S Z I J := gq_goto e_118_13
theorem e_118_16 : g_Pg 118 16 = ga_push (.int (-2)) 18 := (congrFun pg_118 16).trans rfl
theorem q_118_16 {L : List Value} {S : List Value} {Z : gZ} {I : gI} {J : gJ} : g_at 118 16 L S Z I J = g_at 118 18 L (.int (-2) :: S) Z I J := gq_push e_118_16
theorem e_118_18 : g_Pg 118 18 = ga_iret := (congrFun pg_118 18).trans rfl
theorem q_118_18 {L : List Value} {x : Int32} {Z : gZ} {I : gI} {J : gJ} : g_at 118 18 L [.int x] Z I J = some (some (.int x), Z, I, J) := gq_iret e_118_18
theorem e_119_0 : g_Pg 119 0 = ga_aload 0 1 := (congrFun pg_119 0).trans rfl
theorem q_119_0 {l1 l2 l3 l4 l5 l6 l7 l8 l9 : Value} {x : Nat} {S : List Value} {Z : gZ} {I : gI} {J : gJ} : g_at 119 0 [.ref x, l1, l2, l3, l4, l5, l6, l7, l8, l9] S Z I J = g_at 119 1 [.ref x, l1, l2, l3, l4, l5, l6, l7, l8, l9] (.ref x :: S) Z I J := gq_aload e_119_0 rfl
theorem e_119_1 : g_Pg 119 1 = ga_iload 1 2 := (congrFun pg_119 1).trans rfl
theorem q_119_1 {l0 l2 l3 l4 l5 l6 l7 l8 l9 : Value} {x : Int32} {S : List Value} {Z : gZ} {I : gI} {J : gJ} : g_at 119 1 [l0, .int x, l2, l3, l4, l5, l6, l7, l8, l9] S Z I J = g_at 119 2 [l0, .int x, l2, l3, l4, l5, l6, l7, l8, l9] (.int x :: S) Z I J := gq_iload e_119_1 rfl
theorem e_119_2 : g_Pg 119 2 = ga_callV 7 85 1 5 := (congrFun pg_119 2).trans rfl
theorem q_119_2 {L : List Value} {a0 : Int32} {a1 : Nat} {Z : gZ} {I : gI} {J : gJ} (h : (gKd Z a1).1 = 7) : g_at 119 2 L [.int a0, .ref a1] Z I J = (g_at 85 0 [.ref a1, .int a0] [] Z I J).bind (fun r => g_at 119 5 L (r.1.toList ++ []) r.2.1 r.2.2.1 r.2.2.2) := gq_callV e_119_2 rfl rfl h rfl rfl rfl rfl rfl
theorem e_119_5 : g_Pg 119 5 = ga_if (fun x => decide (x = 0)) 16 8 := (congrFun pg_119 5).trans rfl
theorem q_119_5 {L : List Value} {x : Int32} {S : List Value} {Z : gZ} {I : gI} {J : gJ} : g_at 119 5 L (.int x :: S) Z I J = if x = 0 then g_at 119 16 L S Z I J else g_at 119 8 L S Z I J := gq_if e_119_5 rfl
theorem e_119_8 : g_Pg 119 8 = ga_aload 0 9 := (congrFun pg_119 8).trans rfl
theorem q_119_8 {l1 l2 l3 l4 l5 l6 l7 l8 l9 : Value} {x : Nat} {S : List Value} {Z : gZ} {I : gI} {J : gJ} : g_at 119 8 [.ref x, l1, l2, l3, l4, l5, l6, l7, l8, l9] S Z I J = g_at 119 9 [.ref x, l1, l2, l3, l4, l5, l6, l7, l8, l9] (.ref x :: S) Z I J := gq_aload e_119_8 rfl
theorem e_119_9 : g_Pg 119 9 = ga_iload 2 10 := (congrFun pg_119 9).trans rfl
theorem q_119_9 {l0 l1 l3 l4 l5 l6 l7 l8 l9 : Value} {x : Int32} {S : List Value} {Z : gZ} {I : gI} {J : gJ} : g_at 119 9 [l0, l1, .int x, l3, l4, l5, l6, l7, l8, l9] S Z I J = g_at 119 10 [l0, l1, .int x, l3, l4, l5, l6, l7, l8, l9] (.int x :: S) Z I J := gq_iload e_119_9 rfl
theorem e_119_10 : g_Pg 119 10 = ga_callV 7 85 1 13 := (congrFun pg_119 10).trans rfl
theorem q_119_10 {L : List Value} {a0 : Int32} {a1 : Nat} {Z : gZ} {I : gI} {J : gJ} (h : (gKd Z a1).1 = 7) : g_at 119 10 L [.int a0, .ref a1] Z I J = (g_at 85 0 [.ref a1, .int a0] [] Z I J).bind (fun r => g_at 119 13 L (r.1.toList ++ []) r.2.1 r.2.2.1 r.2.2.2) := gq_callV e_119_10 rfl rfl h rfl rfl rfl rfl rfl
theorem e_119_13 : g_Pg 119 13 = ga_if (fun x => decide (¬ x = 0)) 19 16 := (congrFun pg_119 13).trans rfl
theorem q_119_13 {L : List Value} {x : Int32} {S : List Value} {Z : gZ} {I : gI} {J : gJ} : g_at 119 13 L (.int x :: S) Z I J = if ¬ x = 0 then g_at 119 19 L S Z I J else g_at 119 16 L S Z I J := gq_if e_119_13 rfl
theorem e_119_16 : g_Pg 119 16 = ga_push (.int (-2)) 18 := (congrFun pg_119 16).trans rfl
theorem q_119_16 {L : List Value} {S : List Value} {Z : gZ} {I : gI} {J : gJ} : g_at 119 16 L S Z I J = g_at 119 18 L (.int (-2) :: S) Z I J := gq_push e_119_16
theorem e_119_18 : g_Pg 119 18 = ga_iret := (congrFun pg_119 18).trans rfl
theorem q_119_18 {L : List Value} {x : Int32} {Z : gZ} {I : gI} {J : gJ} : g_at 119 18 L [.int x] Z I J = some (some (.int x), Z, I, J) := gq_iret e_119_18
theorem e_119_19 : g_Pg 119 19 = ga_iload 3 20 := (congrFun pg_119 19).trans rfl
theorem q_119_19 {l0 l1 l2 l4 l5 l6 l7 l8 l9 : Value} {x : Int32} {S : List Value} {Z : gZ} {I : gI} {J : gJ} : g_at 119 19 [l0, l1, l2, .int x, l4, l5, l6, l7, l8, l9] S Z I J = g_at 119 20 [l0, l1, l2, .int x, l4, l5, l6, l7, l8, l9] (.int x :: S) Z I J := gq_iload e_119_19 rfl
theorem e_119_20 : g_Pg 119 20 = ga_push (.int 1) 21 := (congrFun pg_119 20).trans rfl
theorem q_119_20 {L : List Value} {S : List Value} {Z : gZ} {I : gI} {J : gJ} : g_at 119 20 L S Z I J = g_at 119 21 L (.int 1 :: S) Z I J := gq_push e_119_20
theorem e_119_21 : g_Pg 119 21 = ga_push (.int 64) 23 := (congrFun pg_119 21).trans rfl
theorem q_119_21 {L : List Value} {S : List Value} {Z : gZ} {I : gI} {J : gJ} : g_at 119 21 L S Z I J = g_at 119 23 L (.int 64 :: S) Z I J := gq_push e_119_21
theorem e_119_23 : g_Pg 119 23 = ga_call 83 3 26 := (congrFun pg_119 23).trans rfl
theorem q_119_23 {L : List Value} {a0 : Int32} {a1 : Int32} {a2 : Int32} {Z : gZ} {I : gI} {J : gJ} : g_at 119 23 L [.int a0, .int a1, .int a2] Z I J = (g_at 83 0 [.int a2, .int a1, .int a0] [] Z I J).bind (fun r => g_at 119 26 L (r.1.toList ++ []) r.2.1 r.2.2.1 r.2.2.2) := gq_call e_119_23 rfl rfl rfl rfl rfl
theorem e_119_26 : g_Pg 119 26 = ga_if (fun x => decide (¬ x = 0)) 32 29 := (congrFun pg_119 26).trans rfl
theorem q_119_26 {L : List Value} {x : Int32} {S : List Value} {Z : gZ} {I : gI} {J : gJ} : g_at 119 26 L (.int x :: S) Z I J = if ¬ x = 0 then g_at 119 32 L S Z I J else g_at 119 29 L S Z I J := gq_if e_119_26 rfl
theorem e_119_29 : g_Pg 119 29 = ga_push (.int (-3)) 31 := (congrFun pg_119 29).trans rfl
theorem q_119_29 {L : List Value} {S : List Value} {Z : gZ} {I : gI} {J : gJ} : g_at 119 29 L S Z I J = g_at 119 31 L (.int (-3) :: S) Z I J := gq_push e_119_29
theorem e_119_31 : g_Pg 119 31 = ga_iret := (congrFun pg_119 31).trans rfl
theorem q_119_31 {L : List Value} {x : Int32} {Z : gZ} {I : gI} {J : gJ} : g_at 119 31 L [.int x] Z I J = some (some (.int x), Z, I, J) := gq_iret e_119_31
theorem e_119_32 : g_Pg 119 32 = ga_aload 0 33 := (congrFun pg_119 32).trans rfl
theorem q_119_32 {l1 l2 l3 l4 l5 l6 l7 l8 l9 : Value} {x : Nat} {S : List Value} {Z : gZ} {I : gI} {J : gJ} : g_at 119 32 [.ref x, l1, l2, l3, l4, l5, l6, l7, l8, l9] S Z I J = g_at 119 33 [.ref x, l1, l2, l3, l4, l5, l6, l7, l8, l9] (.ref x :: S) Z I J := gq_aload e_119_32 rfl
theorem e_119_33 : g_Pg 119 33 = ga_iload 1 34 := (congrFun pg_119 33).trans rfl
theorem q_119_33 {l0 l2 l3 l4 l5 l6 l7 l8 l9 : Value} {x : Int32} {S : List Value} {Z : gZ} {I : gI} {J : gJ} : g_at 119 33 [l0, .int x, l2, l3, l4, l5, l6, l7, l8, l9] S Z I J = g_at 119 34 [l0, .int x, l2, l3, l4, l5, l6, l7, l8, l9] (.int x :: S) Z I J := gq_iload e_119_33 rfl
theorem e_119_34 : g_Pg 119 34 = ga_callV 7 112 1 37 := (congrFun pg_119 34).trans rfl
theorem q_119_34 {L : List Value} {a0 : Int32} {a1 : Nat} {Z : gZ} {I : gI} {J : gJ} (h : (gKd Z a1).1 = 7) : g_at 119 34 L [.int a0, .ref a1] Z I J = (g_at 112 0 [.ref a1, .int a0, .null, .null, .null] [] Z I J).bind (fun r => g_at 119 37 L (r.1.toList ++ []) r.2.1 r.2.2.1 r.2.2.2) := gq_callV e_119_34 rfl rfl h rfl rfl rfl rfl rfl
theorem e_119_37 : g_Pg 119 37 = ga_push (.int (-1)) 38 := (congrFun pg_119 37).trans rfl
theorem q_119_37 {L : List Value} {S : List Value} {Z : gZ} {I : gI} {J : gJ} : g_at 119 37 L S Z I J = g_at 119 38 L (.int (-1) :: S) Z I J := gq_push e_119_37
theorem e_119_38 : g_Pg 119 38 = ga_cmp (fun x y => decide (x = y)) 43 41 := (congrFun pg_119 38).trans rfl
theorem q_119_38 {L : List Value} {x y : Int32} {S : List Value} {Z : gZ} {I : gI} {J : gJ} : g_at 119 38 L (.int y :: .int x :: S) Z I J = if x = y then g_at 119 43 L S Z I J else g_at 119 41 L S Z I J := gq_cmp e_119_38 rfl
theorem e_119_41 : g_Pg 119 41 = ga_push (.int (-1)) 42 := (congrFun pg_119 41).trans rfl
theorem q_119_41 {L : List Value} {S : List Value} {Z : gZ} {I : gI} {J : gJ} : g_at 119 41 L S Z I J = g_at 119 42 L (.int (-1) :: S) Z I J := gq_push e_119_41
theorem e_119_42 : g_Pg 119 42 = ga_iret := (congrFun pg_119 42).trans rfl
theorem q_119_42 {L : List Value} {x : Int32} {Z : gZ} {I : gI} {J : gJ} : g_at 119 42 L [.int x] Z I J = some (some (.int x), Z, I, J) := gq_iret e_119_42
theorem e_119_43 : g_Pg 119 43 = ga_push (.int 0) 44 := (congrFun pg_119 43).trans rfl
theorem q_119_43 {L : List Value} {S : List Value} {Z : gZ} {I : gI} {J : gJ} : g_at 119 43 L S Z I J = g_at 119 44 L (.int 0 :: S) Z I J := gq_push e_119_43
theorem e_119_44 : g_Pg 119 44 = ga_istore 4 46 := (congrFun pg_119 44).trans rfl
theorem q_119_44 {l0 l1 l2 l3 l4 l5 l6 l7 l8 l9 : Value} {x : Int32} {S : List Value} {Z : gZ} {I : gI} {J : gJ} (h : gN1 l3 = true) : g_at 119 44 [l0, l1, l2, l3, l4, l5, l6, l7, l8, l9] (.int x :: S) Z I J = g_at 119 46 [l0, l1, l2, l3, .int x, l5, l6, l7, l8, l9] S Z I J := gq_istore e_119_44 h rfl rfl
theorem e_119_46 : g_Pg 119 46 = ga_push (.int 0) 47 := (congrFun pg_119 46).trans rfl
theorem q_119_46 {L : List Value} {S : List Value} {Z : gZ} {I : gI} {J : gJ} : g_at 119 46 L S Z I J = g_at 119 47 L (.int 0 :: S) Z I J := gq_push e_119_46
theorem e_119_47 : g_Pg 119 47 = ga_istore 5 49 := (congrFun pg_119 47).trans rfl
theorem q_119_47 {l0 l1 l2 l3 l4 l5 l6 l7 l8 l9 : Value} {x : Int32} {S : List Value} {Z : gZ} {I : gI} {J : gJ} (h : gN1 l4 = true) : g_at 119 47 [l0, l1, l2, l3, l4, l5, l6, l7, l8, l9] (.int x :: S) Z I J = g_at 119 49 [l0, l1, l2, l3, l4, .int x, l6, l7, l8, l9] S Z I J := gq_istore e_119_47 h rfl rfl
theorem e_119_49 : g_Pg 119 49 = ga_iload 5 51 := (congrFun pg_119 49).trans rfl
theorem q_119_49 {l0 l1 l2 l3 l4 l6 l7 l8 l9 : Value} {x : Int32} {S : List Value} {Z : gZ} {I : gI} {J : gJ} : g_at 119 49 [l0, l1, l2, l3, l4, .int x, l6, l7, l8, l9] S Z I J = g_at 119 51 [l0, l1, l2, l3, l4, .int x, l6, l7, l8, l9] (.int x :: S) Z I J := gq_iload e_119_49 rfl
theorem e_119_51 : g_Pg 119 51 = ga_aload 0 52 := (congrFun pg_119 51).trans rfl
theorem q_119_51 {l1 l2 l3 l4 l5 l6 l7 l8 l9 : Value} {x : Nat} {S : List Value} {Z : gZ} {I : gI} {J : gJ} : g_at 119 51 [.ref x, l1, l2, l3, l4, l5, l6, l7, l8, l9] S Z I J = g_at 119 52 [.ref x, l1, l2, l3, l4, l5, l6, l7, l8, l9] (.ref x :: S) Z I J := gq_aload e_119_51 rfl
theorem e_119_52 : g_Pg 119 52 = ga_getI 7 0 55 := (congrFun pg_119 52).trans rfl
theorem q_119_52 {L : List Value} {a : Nat} {S : List Value} {Z : gZ} {I : gI} {J : gJ} (h : (gKd Z a).1 = 7) : g_at 119 52 L (.ref a :: S) Z I J = g_at 119 55 L (.int (I a 0) :: S) Z I J := gq_getI e_119_52 h
theorem e_119_55 : g_Pg 119 55 = ga_cmp (fun x y => decide (y ≤ x)) 72 58 := (congrFun pg_119 55).trans rfl
theorem q_119_55 {L : List Value} {x y : Int32} {S : List Value} {Z : gZ} {I : gI} {J : gJ} : g_at 119 55 L (.int y :: .int x :: S) Z I J = if y ≤ x then g_at 119 72 L S Z I J else g_at 119 58 L S Z I J := gq_cmp e_119_55 rfl
theorem e_119_58 : g_Pg 119 58 = ga_aload 0 59 := (congrFun pg_119 58).trans rfl
theorem q_119_58 {l1 l2 l3 l4 l5 l6 l7 l8 l9 : Value} {x : Nat} {S : List Value} {Z : gZ} {I : gI} {J : gJ} : g_at 119 58 [.ref x, l1, l2, l3, l4, l5, l6, l7, l8, l9] S Z I J = g_at 119 59 [.ref x, l1, l2, l3, l4, l5, l6, l7, l8, l9] (.ref x :: S) Z I J := gq_aload e_119_58 rfl
theorem e_119_59 : g_Pg 119 59 = ga_getR 7 28 62 := (congrFun pg_119 59).trans rfl
theorem q_119_59 {L : List Value} {a : Nat} {S : List Value} {Z : gZ} {I : gI} {J : gJ} (h : (gKd Z a).1 = 7) (h1 : gRs Z a 28 = true) : g_at 119 59 L (.ref a :: S) Z I J = g_at 119 62 L (.ref (gRq Z a 28) :: S) Z I J := gq_getR e_119_59 h h1
theorem e_119_62 : g_Pg 119 62 = ga_iload 5 64 := (congrFun pg_119 62).trans rfl
theorem q_119_62 {l0 l1 l2 l3 l4 l6 l7 l8 l9 : Value} {x : Int32} {S : List Value} {Z : gZ} {I : gI} {J : gJ} : g_at 119 62 [l0, l1, l2, l3, l4, .int x, l6, l7, l8, l9] S Z I J = g_at 119 64 [l0, l1, l2, l3, l4, .int x, l6, l7, l8, l9] (.int x :: S) Z I J := gq_iload e_119_62 rfl
theorem e_119_64 : g_Pg 119 64 = ga_push (.int 0) 65 := (congrFun pg_119 64).trans rfl
theorem q_119_64 {L : List Value} {S : List Value} {Z : gZ} {I : gI} {J : gJ} : g_at 119 64 L S Z I J = g_at 119 65 L (.int 0 :: S) Z I J := gq_push e_119_64
theorem e_119_65 : g_Pg 119 65 = ga_iast 66 := (congrFun pg_119 65).trans rfl
theorem q_119_65 {L : List Value} {a : Nat} {i : Int32} {v : Int32} {S : List Value} {Z : gZ} {I : gI} {J : gJ} (h : (gKd Z a).1 = 8) (h0 : 0 ≤ i) (h1 : i.toNatClampNeg < (gKd Z a).2) : g_at 119 65 L (.int v :: .int i :: .ref a :: S) Z I J = g_at 119 66 L S Z (va_up I a (va_up (I a) i.toNatClampNeg v)) J := gq_iast e_119_65 h h0 h1
theorem e_119_66 : g_Pg 119 66 = ga_iinc 5 1 69 := (congrFun pg_119 66).trans rfl
theorem q_119_66 {l0 l1 l2 l3 l4 l6 l7 l8 l9 : Value} {x : Int32} {S : List Value} {Z : gZ} {I : gI} {J : gJ} (h : gN1 l4 = true) : g_at 119 66 [l0, l1, l2, l3, l4, .int x, l6, l7, l8, l9] S Z I J = g_at 119 69 [l0, l1, l2, l3, l4, .int (x + 1), l6, l7, l8, l9] S Z I J := gq_iinc e_119_66 rfl h rfl
theorem e_119_69 : g_Pg 119 69 = ga_goto 49 := (congrFun pg_119 69).trans rfl
theorem q_119_69 {L : List Value} {S : List Value} {Z : gZ} {I : gI} {J : gJ} : g_at 119 69 L S Z I J = g_at 119 49 L S Z I J := gq_goto e_119_69
theorem e_119_72 : g_Pg 119 72 = ga_push (.int 0) 73 := (congrFun pg_119 72).trans rfl
theorem q_119_72 {L : List Value} {S : List Value} {Z : gZ} {I : gI} {J : gJ} : g_at 119 72 L S Z I J = g_at 119 73 L (.int 0 :: S) Z I J := gq_push e_119_72
theorem e_119_73 : g_Pg 119 73 = ga_istore 5 75 := (congrFun pg_119 73).trans rfl
theorem q_119_73 {l0 l1 l2 l3 l4 l5 l6 l7 l8 l9 : Value} {x : Int32} {S : List Value} {Z : gZ} {I : gI} {J : gJ} (h : gN1 l4 = true) : g_at 119 73 [l0, l1, l2, l3, l4, l5, l6, l7, l8, l9] (.int x :: S) Z I J = g_at 119 75 [l0, l1, l2, l3, l4, .int x, l6, l7, l8, l9] S Z I J := gq_istore e_119_73 h rfl rfl
theorem e_119_75 : g_Pg 119 75 = ga_iload 5 77 := (congrFun pg_119 75).trans rfl
theorem q_119_75 {l0 l1 l2 l3 l4 l6 l7 l8 l9 : Value} {x : Int32} {S : List Value} {Z : gZ} {I : gI} {J : gJ} : g_at 119 75 [l0, l1, l2, l3, l4, .int x, l6, l7, l8, l9] S Z I J = g_at 119 77 [l0, l1, l2, l3, l4, .int x, l6, l7, l8, l9] (.int x :: S) Z I J := gq_iload e_119_75 rfl
theorem e_119_77 : g_Pg 119 77 = ga_iload 3 78 := (congrFun pg_119 77).trans rfl
theorem q_119_77 {l0 l1 l2 l4 l5 l6 l7 l8 l9 : Value} {x : Int32} {S : List Value} {Z : gZ} {I : gI} {J : gJ} : g_at 119 77 [l0, l1, l2, .int x, l4, l5, l6, l7, l8, l9] S Z I J = g_at 119 78 [l0, l1, l2, .int x, l4, l5, l6, l7, l8, l9] (.int x :: S) Z I J := gq_iload e_119_77 rfl
theorem e_119_78 : g_Pg 119 78 = ga_cmp (fun x y => decide (y ≤ x)) 219 81 := (congrFun pg_119 78).trans rfl
theorem q_119_78 {L : List Value} {x y : Int32} {S : List Value} {Z : gZ} {I : gI} {J : gJ} : g_at 119 78 L (.int y :: .int x :: S) Z I J = if y ≤ x then g_at 119 219 L S Z I J else g_at 119 81 L S Z I J := gq_cmp e_119_78 rfl
theorem e_119_81 : g_Pg 119 81 = ga_push (.int 1) 82 := (congrFun pg_119 81).trans rfl
theorem q_119_81 {L : List Value} {S : List Value} {Z : gZ} {I : gI} {J : gJ} : g_at 119 81 L S Z I J = g_at 119 82 L (.int 1 :: S) Z I J := gq_push e_119_81
theorem e_119_82 : g_Pg 119 82 = ga_istore 6 84 := (congrFun pg_119 82).trans rfl
theorem q_119_82 {l0 l1 l2 l3 l4 l5 l6 l7 l8 l9 : Value} {x : Int32} {S : List Value} {Z : gZ} {I : gI} {J : gJ} (h : gN1 l5 = true) : g_at 119 82 [l0, l1, l2, l3, l4, l5, l6, l7, l8, l9] (.int x :: S) Z I J = g_at 119 84 [l0, l1, l2, l3, l4, l5, .int x, l7, l8, l9] S Z I J := gq_istore e_119_82 h rfl rfl
theorem e_119_84 : g_Pg 119 84 = ga_aload 0 85 := (congrFun pg_119 84).trans rfl
theorem q_119_84 {l1 l2 l3 l4 l5 l6 l7 l8 l9 : Value} {x : Nat} {S : List Value} {Z : gZ} {I : gI} {J : gJ} : g_at 119 84 [.ref x, l1, l2, l3, l4, l5, l6, l7, l8, l9] S Z I J = g_at 119 85 [.ref x, l1, l2, l3, l4, l5, l6, l7, l8, l9] (.ref x :: S) Z I J := gq_aload e_119_84 rfl
theorem e_119_85 : g_Pg 119 85 = ga_getR 7 29 88 := (congrFun pg_119 85).trans rfl
theorem q_119_85 {L : List Value} {a : Nat} {S : List Value} {Z : gZ} {I : gI} {J : gJ} (h : (gKd Z a).1 = 7) (h1 : gRs Z a 29 = true) : g_at 119 85 L (.ref a :: S) Z I J = g_at 119 88 L (.ref (gRq Z a 29) :: S) Z I J := gq_getR e_119_85 h h1
theorem e_119_88 : g_Pg 119 88 = ga_push (.int 0) 89 := (congrFun pg_119 88).trans rfl
theorem q_119_88 {L : List Value} {S : List Value} {Z : gZ} {I : gI} {J : gJ} : g_at 119 88 L S Z I J = g_at 119 89 L (.int 0 :: S) Z I J := gq_push e_119_88
theorem e_119_89 : g_Pg 119 89 = ga_iload 1 90 := (congrFun pg_119 89).trans rfl
theorem q_119_89 {l0 l2 l3 l4 l5 l6 l7 l8 l9 : Value} {x : Int32} {S : List Value} {Z : gZ} {I : gI} {J : gJ} : g_at 119 89 [l0, .int x, l2, l3, l4, l5, l6, l7, l8, l9] S Z I J = g_at 119 90 [l0, .int x, l2, l3, l4, l5, l6, l7, l8, l9] (.int x :: S) Z I J := gq_iload e_119_89 rfl
theorem e_119_90 : g_Pg 119 90 = ga_iast 91 := (congrFun pg_119 90).trans rfl
theorem q_119_90 {L : List Value} {a : Nat} {i : Int32} {v : Int32} {S : List Value} {Z : gZ} {I : gI} {J : gJ} (h : (gKd Z a).1 = 8) (h0 : 0 ≤ i) (h1 : i.toNatClampNeg < (gKd Z a).2) : g_at 119 90 L (.int v :: .int i :: .ref a :: S) Z I J = g_at 119 91 L S Z (va_up I a (va_up (I a) i.toNatClampNeg v)) J := gq_iast e_119_90 h h0 h1
theorem e_119_91 : g_Pg 119 91 = ga_push (.int 0) 92 := (congrFun pg_119 91).trans rfl
theorem q_119_91 {L : List Value} {S : List Value} {Z : gZ} {I : gI} {J : gJ} : g_at 119 91 L S Z I J = g_at 119 92 L (.int 0 :: S) Z I J := gq_push e_119_91
theorem e_119_92 : g_Pg 119 92 = ga_istore 7 94 := (congrFun pg_119 92).trans rfl
theorem q_119_92 {l0 l1 l2 l3 l4 l5 l6 l7 l8 l9 : Value} {x : Int32} {S : List Value} {Z : gZ} {I : gI} {J : gJ} (h : gN1 l6 = true) : g_at 119 92 [l0, l1, l2, l3, l4, l5, l6, l7, l8, l9] (.int x :: S) Z I J = g_at 119 94 [l0, l1, l2, l3, l4, l5, l6, .int x, l8, l9] S Z I J := gq_istore e_119_92 h rfl rfl
theorem e_119_94 : g_Pg 119 94 = ga_iload 7 96 := (congrFun pg_119 94).trans rfl
theorem q_119_94 {l0 l1 l2 l3 l4 l5 l6 l8 l9 : Value} {x : Int32} {S : List Value} {Z : gZ} {I : gI} {J : gJ} : g_at 119 94 [l0, l1, l2, l3, l4, l5, l6, .int x, l8, l9] S Z I J = g_at 119 96 [l0, l1, l2, l3, l4, l5, l6, .int x, l8, l9] (.int x :: S) Z I J := gq_iload e_119_94 rfl
theorem e_119_96 : g_Pg 119 96 = ga_iload 6 98 := (congrFun pg_119 96).trans rfl
theorem q_119_96 {l0 l1 l2 l3 l4 l5 l7 l8 l9 : Value} {x : Int32} {S : List Value} {Z : gZ} {I : gI} {J : gJ} : g_at 119 96 [l0, l1, l2, l3, l4, l5, .int x, l7, l8, l9] S Z I J = g_at 119 98 [l0, l1, l2, l3, l4, l5, .int x, l7, l8, l9] (.int x :: S) Z I J := gq_iload e_119_96 rfl
theorem e_119_98 : g_Pg 119 98 = ga_cmp (fun x y => decide (y ≤ x)) 213 101 := (congrFun pg_119 98).trans rfl
theorem q_119_98 {L : List Value} {x y : Int32} {S : List Value} {Z : gZ} {I : gI} {J : gJ} : g_at 119 98 L (.int y :: .int x :: S) Z I J = if y ≤ x then g_at 119 213 L S Z I J else g_at 119 101 L S Z I J := gq_cmp e_119_98 rfl
theorem e_119_101 : g_Pg 119 101 = ga_aload 0 102 := (congrFun pg_119 101).trans rfl
theorem q_119_101 {l1 l2 l3 l4 l5 l6 l7 l8 l9 : Value} {x : Nat} {S : List Value} {Z : gZ} {I : gI} {J : gJ} : g_at 119 101 [.ref x, l1, l2, l3, l4, l5, l6, l7, l8, l9] S Z I J = g_at 119 102 [.ref x, l1, l2, l3, l4, l5, l6, l7, l8, l9] (.ref x :: S) Z I J := gq_aload e_119_101 rfl
theorem e_119_102 : g_Pg 119 102 = ga_getR 7 29 105 := (congrFun pg_119 102).trans rfl
theorem q_119_102 {L : List Value} {a : Nat} {S : List Value} {Z : gZ} {I : gI} {J : gJ} (h : (gKd Z a).1 = 7) (h1 : gRs Z a 29 = true) : g_at 119 102 L (.ref a :: S) Z I J = g_at 119 105 L (.ref (gRq Z a 29) :: S) Z I J := gq_getR e_119_102 h h1
theorem e_119_105 : g_Pg 119 105 = ga_iload 7 107 := (congrFun pg_119 105).trans rfl
theorem q_119_105 {l0 l1 l2 l3 l4 l5 l6 l8 l9 : Value} {x : Int32} {S : List Value} {Z : gZ} {I : gI} {J : gJ} : g_at 119 105 [l0, l1, l2, l3, l4, l5, l6, .int x, l8, l9] S Z I J = g_at 119 107 [l0, l1, l2, l3, l4, l5, l6, .int x, l8, l9] (.int x :: S) Z I J := gq_iload e_119_105 rfl
theorem e_119_107 : g_Pg 119 107 = ga_iald 108 := (congrFun pg_119 107).trans rfl
theorem q_119_107 {L : List Value} {a : Nat} {i : Int32} {S : List Value} {Z : gZ} {I : gI} {J : gJ} (h : gTg8 (gKd Z a).1 a = true) (h0 : 0 ≤ i) (h1 : i.toNatClampNeg < (gKd Z a).2) : g_at 119 107 L (.int i :: .ref a :: S) Z I J = g_at 119 108 L (.int (I a i.toNatClampNeg) :: S) Z I J := gq_iald e_119_107 h h0 h1
theorem e_119_108 : g_Pg 119 108 = ga_istore 8 110 := (congrFun pg_119 108).trans rfl
theorem q_119_108 {l0 l1 l2 l3 l4 l5 l6 l7 l8 l9 : Value} {x : Int32} {S : List Value} {Z : gZ} {I : gI} {J : gJ} (h : gN1 l7 = true) : g_at 119 108 [l0, l1, l2, l3, l4, l5, l6, l7, l8, l9] (.int x :: S) Z I J = g_at 119 110 [l0, l1, l2, l3, l4, l5, l6, l7, .int x, l9] S Z I J := gq_istore e_119_108 h rfl rfl
theorem e_119_110 : g_Pg 119 110 = ga_aload 0 111 := (congrFun pg_119 110).trans rfl
theorem q_119_110 {l1 l2 l3 l4 l5 l6 l7 l8 l9 : Value} {x : Nat} {S : List Value} {Z : gZ} {I : gI} {J : gJ} : g_at 119 110 [.ref x, l1, l2, l3, l4, l5, l6, l7, l8, l9] S Z I J = g_at 119 111 [.ref x, l1, l2, l3, l4, l5, l6, l7, l8, l9] (.ref x :: S) Z I J := gq_aload e_119_110 rfl
theorem e_119_111 : g_Pg 119 111 = ga_getR 7 28 114 := (congrFun pg_119 111).trans rfl
theorem q_119_111 {L : List Value} {a : Nat} {S : List Value} {Z : gZ} {I : gI} {J : gJ} (h : (gKd Z a).1 = 7) (h1 : gRs Z a 28 = true) : g_at 119 111 L (.ref a :: S) Z I J = g_at 119 114 L (.ref (gRq Z a 28) :: S) Z I J := gq_getR e_119_111 h h1
theorem e_119_114 : g_Pg 119 114 = ga_iload 8 116 := (congrFun pg_119 114).trans rfl
theorem q_119_114 {l0 l1 l2 l3 l4 l5 l6 l7 l9 : Value} {x : Int32} {S : List Value} {Z : gZ} {I : gI} {J : gJ} : g_at 119 114 [l0, l1, l2, l3, l4, l5, l6, l7, .int x, l9] S Z I J = g_at 119 116 [l0, l1, l2, l3, l4, l5, l6, l7, .int x, l9] (.int x :: S) Z I J := gq_iload e_119_114 rfl
theorem e_119_116 : g_Pg 119 116 = ga_dup2 117 := (congrFun pg_119 116).trans rfl
theorem q_119_116 {L : List Value} {x : Nat} {y : Int32} {S : List Value} {Z : gZ} {I : gI} {J : gJ} : g_at 119 116 L (.int y :: .ref x :: S) Z I J = g_at 119 117 L (.int y :: .ref x :: .int y :: .ref x :: S) Z I J := gq_dup2 e_119_116
theorem e_119_117 : g_Pg 119 117 = ga_iald 118 := (congrFun pg_119 117).trans rfl
theorem q_119_117 {L : List Value} {a : Nat} {i : Int32} {S : List Value} {Z : gZ} {I : gI} {J : gJ} (h : gTg8 (gKd Z a).1 a = true) (h0 : 0 ≤ i) (h1 : i.toNatClampNeg < (gKd Z a).2) : g_at 119 117 L (.int i :: .ref a :: S) Z I J = g_at 119 118 L (.int (I a i.toNatClampNeg) :: S) Z I J := gq_iald e_119_117 h h0 h1
theorem e_119_118 : g_Pg 119 118 = ga_push (.int 1) 119 := (congrFun pg_119 118).trans rfl
theorem q_119_118 {L : List Value} {S : List Value} {Z : gZ} {I : gI} {J : gJ} : g_at 119 118 L S Z I J = g_at 119 119 L (.int 1 :: S) Z I J := gq_push e_119_118
theorem e_119_119 : g_Pg 119 119 = ga_bin (fun x y => x + y) 120 := (congrFun pg_119 119).trans rfl
theorem q_119_119 {L : List Value} {x y : Int32} {S : List Value} {Z : gZ} {I : gI} {J : gJ} : g_at 119 119 L (.int y :: .int x :: S) Z I J = g_at 119 120 L (.int (x + y) :: S) Z I J := gq_bin e_119_119
theorem e_119_120 : g_Pg 119 120 = ga_iast 121 := (congrFun pg_119 120).trans rfl
theorem q_119_120 {L : List Value} {a : Nat} {i : Int32} {v : Int32} {S : List Value} {Z : gZ} {I : gI} {J : gJ} (h : (gKd Z a).1 = 8) (h0 : 0 ≤ i) (h1 : i.toNatClampNeg < (gKd Z a).2) : g_at 119 120 L (.int v :: .int i :: .ref a :: S) Z I J = g_at 119 121 L S Z (va_up I a (va_up (I a) i.toNatClampNeg v)) J := gq_iast e_119_120 h h0 h1
theorem e_119_121 : g_Pg 119 121 = ga_push (.int 0) 122 := (congrFun pg_119 121).trans rfl
theorem q_119_121 {L : List Value} {S : List Value} {Z : gZ} {I : gI} {J : gJ} : g_at 119 121 L S Z I J = g_at 119 122 L (.int 0 :: S) Z I J := gq_push e_119_121
theorem e_119_122 : g_Pg 119 122 = ga_istore 9 124 := (congrFun pg_119 122).trans rfl
theorem q_119_122 {l0 l1 l2 l3 l4 l5 l6 l7 l8 l9 : Value} {x : Int32} {S : List Value} {Z : gZ} {I : gI} {J : gJ} (h : gN1 l8 = true) : g_at 119 122 [l0, l1, l2, l3, l4, l5, l6, l7, l8, l9] (.int x :: S) Z I J = g_at 119 124 [l0, l1, l2, l3, l4, l5, l6, l7, l8, .int x] S Z I J := gq_istore e_119_122 h rfl rfl
theorem e_119_124 : g_Pg 119 124 = ga_iload 9 126 := (congrFun pg_119 124).trans rfl
theorem q_119_124 {l0 l1 l2 l3 l4 l5 l6 l7 l8 : Value} {x : Int32} {S : List Value} {Z : gZ} {I : gI} {J : gJ} : g_at 119 124 [l0, l1, l2, l3, l4, l5, l6, l7, l8, .int x] S Z I J = g_at 119 126 [l0, l1, l2, l3, l4, l5, l6, l7, l8, .int x] (.int x :: S) Z I J := gq_iload e_119_124 rfl
theorem e_119_126 : g_Pg 119 126 = ga_aload 0 127 := (congrFun pg_119 126).trans rfl
theorem q_119_126 {l1 l2 l3 l4 l5 l6 l7 l8 l9 : Value} {x : Nat} {S : List Value} {Z : gZ} {I : gI} {J : gJ} : g_at 119 126 [.ref x, l1, l2, l3, l4, l5, l6, l7, l8, l9] S Z I J = g_at 119 127 [.ref x, l1, l2, l3, l4, l5, l6, l7, l8, l9] (.ref x :: S) Z I J := gq_aload e_119_126 rfl
theorem e_119_127 : g_Pg 119 127 = ga_getI 7 0 130 := (congrFun pg_119 127).trans rfl
theorem q_119_127 {L : List Value} {a : Nat} {S : List Value} {Z : gZ} {I : gI} {J : gJ} (h : (gKd Z a).1 = 7) : g_at 119 127 L (.ref a :: S) Z I J = g_at 119 130 L (.int (I a 0) :: S) Z I J := gq_getI e_119_127 h
theorem e_119_130 : g_Pg 119 130 = ga_cmp (fun x y => decide (y ≤ x)) 207 133 := (congrFun pg_119 130).trans rfl
theorem q_119_130 {L : List Value} {x y : Int32} {S : List Value} {Z : gZ} {I : gI} {J : gJ} : g_at 119 130 L (.int y :: .int x :: S) Z I J = if y ≤ x then g_at 119 207 L S Z I J else g_at 119 133 L S Z I J := gq_cmp e_119_130 rfl
theorem e_119_133 : g_Pg 119 133 = ga_aload 0 134 := (congrFun pg_119 133).trans rfl
theorem q_119_133 {l1 l2 l3 l4 l5 l6 l7 l8 l9 : Value} {x : Nat} {S : List Value} {Z : gZ} {I : gI} {J : gJ} : g_at 119 133 [.ref x, l1, l2, l3, l4, l5, l6, l7, l8, l9] S Z I J = g_at 119 134 [.ref x, l1, l2, l3, l4, l5, l6, l7, l8, l9] (.ref x :: S) Z I J := gq_aload e_119_133 rfl
theorem e_119_134 : g_Pg 119 134 = ga_getR 7 1 137 := (congrFun pg_119 134).trans rfl
theorem q_119_134 {L : List Value} {a : Nat} {S : List Value} {Z : gZ} {I : gI} {J : gJ} (h : (gKd Z a).1 = 7) (h1 : gRs Z a 1 = true) : g_at 119 134 L (.ref a :: S) Z I J = g_at 119 137 L (.ref (gRq Z a 1) :: S) Z I J := gq_getR e_119_134 h h1
theorem e_119_137 : g_Pg 119 137 = ga_iload 9 139 := (congrFun pg_119 137).trans rfl
theorem q_119_137 {l0 l1 l2 l3 l4 l5 l6 l7 l8 : Value} {x : Int32} {S : List Value} {Z : gZ} {I : gI} {J : gJ} : g_at 119 137 [l0, l1, l2, l3, l4, l5, l6, l7, l8, .int x] S Z I J = g_at 119 139 [l0, l1, l2, l3, l4, l5, l6, l7, l8, .int x] (.int x :: S) Z I J := gq_iload e_119_137 rfl
theorem e_119_139 : g_Pg 119 139 = ga_iald 140 := (congrFun pg_119 139).trans rfl
theorem q_119_139 {L : List Value} {a : Nat} {i : Int32} {S : List Value} {Z : gZ} {I : gI} {J : gJ} (h : gTg8 (gKd Z a).1 a = true) (h0 : 0 ≤ i) (h1 : i.toNatClampNeg < (gKd Z a).2) : g_at 119 139 L (.int i :: .ref a :: S) Z I J = g_at 119 140 L (.int (I a i.toNatClampNeg) :: S) Z I J := gq_iald e_119_139 h h0 h1
theorem e_119_140 : g_Pg 119 140 = ga_iload 8 142 := (congrFun pg_119 140).trans rfl
theorem q_119_140 {l0 l1 l2 l3 l4 l5 l6 l7 l9 : Value} {x : Int32} {S : List Value} {Z : gZ} {I : gI} {J : gJ} : g_at 119 140 [l0, l1, l2, l3, l4, l5, l6, l7, .int x, l9] S Z I J = g_at 119 142 [l0, l1, l2, l3, l4, l5, l6, l7, .int x, l9] (.int x :: S) Z I J := gq_iload e_119_140 rfl
theorem e_119_142 : g_Pg 119 142 = ga_cmp (fun x y => decide (¬ x = y)) 201 145 := (congrFun pg_119 142).trans rfl
theorem q_119_142 {L : List Value} {x y : Int32} {S : List Value} {Z : gZ} {I : gI} {J : gJ} : g_at 119 142 L (.int y :: .int x :: S) Z I J = if ¬ x = y then g_at 119 201 L S Z I J else g_at 119 145 L S Z I J := gq_cmp e_119_142 rfl
theorem e_119_145 : g_Pg 119 145 = ga_aload 0 146 := (congrFun pg_119 145).trans rfl
theorem q_119_145 {l1 l2 l3 l4 l5 l6 l7 l8 l9 : Value} {x : Nat} {S : List Value} {Z : gZ} {I : gI} {J : gJ} : g_at 119 145 [.ref x, l1, l2, l3, l4, l5, l6, l7, l8, l9] S Z I J = g_at 119 146 [.ref x, l1, l2, l3, l4, l5, l6, l7, l8, l9] (.ref x :: S) Z I J := gq_aload e_119_145 rfl
theorem e_119_146 : g_Pg 119 146 = ga_iload 9 148 := (congrFun pg_119 146).trans rfl
theorem q_119_146 {l0 l1 l2 l3 l4 l5 l6 l7 l8 : Value} {x : Int32} {S : List Value} {Z : gZ} {I : gI} {J : gJ} : g_at 119 146 [l0, l1, l2, l3, l4, l5, l6, l7, l8, .int x] S Z I J = g_at 119 148 [l0, l1, l2, l3, l4, l5, l6, l7, l8, .int x] (.int x :: S) Z I J := gq_iload e_119_146 rfl
theorem e_119_148 : g_Pg 119 148 = ga_callV 7 99 1 151 := (congrFun pg_119 148).trans rfl
theorem q_119_148 {L : List Value} {a0 : Int32} {a1 : Nat} {Z : gZ} {I : gI} {J : gJ} (h : (gKd Z a1).1 = 7) : g_at 119 148 L [.int a0, .ref a1] Z I J = (g_at 99 0 [.ref a1, .int a0] [] Z I J).bind (fun r => g_at 119 151 L (r.1.toList ++ []) r.2.1 r.2.2.1 r.2.2.2) := gq_callV e_119_148 rfl rfl h rfl rfl rfl rfl rfl
theorem e_119_151 : g_Pg 119 151 = ga_if (fun x => decide (x = 0)) 201 154 := (congrFun pg_119 151).trans rfl
theorem q_119_151 {L : List Value} {x : Int32} {S : List Value} {Z : gZ} {I : gI} {J : gJ} : g_at 119 151 L (.int x :: S) Z I J = if x = 0 then g_at 119 201 L S Z I J else g_at 119 154 L S Z I J := gq_if e_119_151 rfl
theorem e_119_154 : g_Pg 119 154 = ga_aload 0 155 := (congrFun pg_119 154).trans rfl
theorem q_119_154 {l1 l2 l3 l4 l5 l6 l7 l8 l9 : Value} {x : Nat} {S : List Value} {Z : gZ} {I : gI} {J : gJ} : g_at 119 154 [.ref x, l1, l2, l3, l4, l5, l6, l7, l8, l9] S Z I J = g_at 119 155 [.ref x, l1, l2, l3, l4, l5, l6, l7, l8, l9] (.ref x :: S) Z I J := gq_aload e_119_154 rfl
theorem e_119_155 : g_Pg 119 155 = ga_getR 7 3 158 := (congrFun pg_119 155).trans rfl
theorem q_119_155 {L : List Value} {a : Nat} {S : List Value} {Z : gZ} {I : gI} {J : gJ} (h : (gKd Z a).1 = 7) (h1 : gRs Z a 3 = true) : g_at 119 155 L (.ref a :: S) Z I J = g_at 119 158 L (.ref (gRq Z a 3) :: S) Z I J := gq_getR e_119_155 h h1
theorem e_119_158 : g_Pg 119 158 = ga_iload 9 160 := (congrFun pg_119 158).trans rfl
theorem q_119_158 {l0 l1 l2 l3 l4 l5 l6 l7 l8 : Value} {x : Int32} {S : List Value} {Z : gZ} {I : gI} {J : gJ} : g_at 119 158 [l0, l1, l2, l3, l4, l5, l6, l7, l8, .int x] S Z I J = g_at 119 160 [l0, l1, l2, l3, l4, l5, l6, l7, l8, .int x] (.int x :: S) Z I J := gq_iload e_119_158 rfl
theorem e_119_160 : g_Pg 119 160 = ga_iald 161 := (congrFun pg_119 160).trans rfl
theorem q_119_160 {L : List Value} {a : Nat} {i : Int32} {S : List Value} {Z : gZ} {I : gI} {J : gJ} (h : gTg8 (gKd Z a).1 a = true) (h0 : 0 ≤ i) (h1 : i.toNatClampNeg < (gKd Z a).2) : g_at 119 160 L (.int i :: .ref a :: S) Z I J = g_at 119 161 L (.int (I a i.toNatClampNeg) :: S) Z I J := gq_iald e_119_160 h h0 h1
theorem e_119_161 : g_Pg 119 161 = ga_push (.int 3) 162 := (congrFun pg_119 161).trans rfl
theorem q_119_161 {L : List Value} {S : List Value} {Z : gZ} {I : gI} {J : gJ} : g_at 119 161 L S Z I J = g_at 119 162 L (.int 3 :: S) Z I J := gq_push e_119_161
theorem e_119_162 : g_Pg 119 162 = ga_cmp (fun x y => decide (¬ x = y)) 175 165 := (congrFun pg_119 162).trans rfl
theorem q_119_162 {L : List Value} {x y : Int32} {S : List Value} {Z : gZ} {I : gI} {J : gJ} : g_at 119 162 L (.int y :: .int x :: S) Z I J = if ¬ x = y then g_at 119 175 L S Z I J else g_at 119 165 L S Z I J := gq_cmp e_119_162 rfl
theorem e_119_165 : g_Pg 119 165 = ga_iload 4 167 := (congrFun pg_119 165).trans rfl
theorem q_119_165 {l0 l1 l2 l3 l5 l6 l7 l8 l9 : Value} {x : Int32} {S : List Value} {Z : gZ} {I : gI} {J : gJ} : g_at 119 165 [l0, l1, l2, l3, .int x, l5, l6, l7, l8, l9] S Z I J = g_at 119 167 [l0, l1, l2, l3, .int x, l5, l6, l7, l8, l9] (.int x :: S) Z I J := gq_iload e_119_165 rfl
theorem e_119_167 : g_Pg 119 167 = ga_push (.int 1) 168 := (congrFun pg_119 167).trans rfl
theorem q_119_167 {L : List Value} {S : List Value} {Z : gZ} {I : gI} {J : gJ} : g_at 119 167 L S Z I J = g_at 119 168 L (.int 1 :: S) Z I J := gq_push e_119_167
theorem e_119_168 : g_Pg 119 168 = ga_iload 9 170 := (congrFun pg_119 168).trans rfl
theorem q_119_168 {l0 l1 l2 l3 l4 l5 l6 l7 l8 : Value} {x : Int32} {S : List Value} {Z : gZ} {I : gI} {J : gJ} : g_at 119 168 [l0, l1, l2, l3, l4, l5, l6, l7, l8, .int x] S Z I J = g_at 119 170 [l0, l1, l2, l3, l4, l5, l6, l7, l8, .int x] (.int x :: S) Z I J := gq_iload e_119_168 rfl
theorem e_119_170 : g_Pg 119 170 = ga_bin (fun x y => x <<< (y &&& 31)) 171 := (congrFun pg_119 170).trans rfl
theorem q_119_170 {L : List Value} {x y : Int32} {S : List Value} {Z : gZ} {I : gI} {J : gJ} : g_at 119 170 L (.int y :: .int x :: S) Z I J = g_at 119 171 L (.int (x <<< (y &&& 31)) :: S) Z I J := gq_bin e_119_170
theorem e_119_171 : g_Pg 119 171 = ga_bin (fun x y => x ^^^ y) 172 := (congrFun pg_119 171).trans rfl
theorem q_119_171 {L : List Value} {x y : Int32} {S : List Value} {Z : gZ} {I : gI} {J : gJ} : g_at 119 171 L (.int y :: .int x :: S) Z I J = g_at 119 172 L (.int (x ^^^ y) :: S) Z I J := gq_bin e_119_171
theorem e_119_172 : g_Pg 119 172 = ga_goto 177 := (congrFun pg_119 172).trans rfl
theorem q_119_172 {L : List Value} {S : List Value} {Z : gZ} {I : gI} {J : gJ} : g_at 119 172 L S Z I J = g_at 119 177 L S Z I J := gq_goto e_119_172
theorem e_119_175 : g_Pg 119 175 = ga_iload 4 177 := (congrFun pg_119 175).trans rfl
theorem q_119_175 {l0 l1 l2 l3 l5 l6 l7 l8 l9 : Value} {x : Int32} {S : List Value} {Z : gZ} {I : gI} {J : gJ} : g_at 119 175 [l0, l1, l2, l3, .int x, l5, l6, l7, l8, l9] S Z I J = g_at 119 177 [l0, l1, l2, l3, .int x, l5, l6, l7, l8, l9] (.int x :: S) Z I J := gq_iload e_119_175 rfl
theorem e_119_177 : g_Pg 119 177 = ga_istore 4 179 := (congrFun pg_119 177).trans rfl
theorem q_119_177 {l0 l1 l2 l3 l4 l5 l6 l7 l8 l9 : Value} {x : Int32} {S : List Value} {Z : gZ} {I : gI} {J : gJ} (h : gN1 l3 = true) : g_at 119 177 [l0, l1, l2, l3, l4, l5, l6, l7, l8, l9] (.int x :: S) Z I J = g_at 119 179 [l0, l1, l2, l3, .int x, l5, l6, l7, l8, l9] S Z I J := gq_istore e_119_177 h rfl rfl
theorem e_119_179 : g_Pg 119 179 = ga_iload 4 181 := (congrFun pg_119 179).trans rfl
theorem q_119_179 {l0 l1 l2 l3 l5 l6 l7 l8 l9 : Value} {x : Int32} {S : List Value} {Z : gZ} {I : gI} {J : gJ} : g_at 119 179 [l0, l1, l2, l3, .int x, l5, l6, l7, l8, l9] S Z I J = g_at 119 181 [l0, l1, l2, l3, .int x, l5, l6, l7, l8, l9] (.int x :: S) Z I J := gq_iload e_119_179 rfl
theorem e_119_181 : g_Pg 119 181 = ga_iload 9 183 := (congrFun pg_119 181).trans rfl
theorem q_119_181 {l0 l1 l2 l3 l4 l5 l6 l7 l8 : Value} {x : Int32} {S : List Value} {Z : gZ} {I : gI} {J : gJ} : g_at 119 181 [l0, l1, l2, l3, l4, l5, l6, l7, l8, .int x] S Z I J = g_at 119 183 [l0, l1, l2, l3, l4, l5, l6, l7, l8, .int x] (.int x :: S) Z I J := gq_iload e_119_181 rfl
theorem e_119_183 : g_Pg 119 183 = ga_call 84 2 186 := (congrFun pg_119 183).trans rfl
theorem q_119_183 {L : List Value} {a0 : Int32} {a1 : Int32} {Z : gZ} {I : gI} {J : gJ} : g_at 119 183 L [.int a0, .int a1] Z I J = (g_at 84 0 [.int a1, .int a0] [] Z I J).bind (fun r => g_at 119 186 L (r.1.toList ++ []) r.2.1 r.2.2.1 r.2.2.2) := gq_call e_119_183 rfl rfl rfl rfl rfl
theorem e_119_186 : g_Pg 119 186 = ga_if (fun x => decide (¬ x = 0)) 201 189 := (congrFun pg_119 186).trans rfl
theorem q_119_186 {L : List Value} {x : Int32} {S : List Value} {Z : gZ} {I : gI} {J : gJ} : g_at 119 186 L (.int x :: S) Z I J = if ¬ x = 0 then g_at 119 201 L S Z I J else g_at 119 189 L S Z I J := gq_if e_119_186 rfl
theorem e_119_189 : g_Pg 119 189 = ga_aload 0 190 := (congrFun pg_119 189).trans rfl
theorem q_119_189 {l1 l2 l3 l4 l5 l6 l7 l8 l9 : Value} {x : Nat} {S : List Value} {Z : gZ} {I : gI} {J : gJ} : g_at 119 189 [.ref x, l1, l2, l3, l4, l5, l6, l7, l8, l9] S Z I J = g_at 119 190 [.ref x, l1, l2, l3, l4, l5, l6, l7, l8, l9] (.ref x :: S) Z I J := gq_aload e_119_189 rfl
theorem e_119_190 : g_Pg 119 190 = ga_getR 7 29 193 := (congrFun pg_119 190).trans rfl
theorem q_119_190 {L : List Value} {a : Nat} {S : List Value} {Z : gZ} {I : gI} {J : gJ} (h : (gKd Z a).1 = 7) (h1 : gRs Z a 29 = true) : g_at 119 190 L (.ref a :: S) Z I J = g_at 119 193 L (.ref (gRq Z a 29) :: S) Z I J := gq_getR e_119_190 h h1
theorem e_119_193 : g_Pg 119 193 = ga_iload 6 195 := (congrFun pg_119 193).trans rfl
theorem q_119_193 {l0 l1 l2 l3 l4 l5 l7 l8 l9 : Value} {x : Int32} {S : List Value} {Z : gZ} {I : gI} {J : gJ} : g_at 119 193 [l0, l1, l2, l3, l4, l5, .int x, l7, l8, l9] S Z I J = g_at 119 195 [l0, l1, l2, l3, l4, l5, .int x, l7, l8, l9] (.int x :: S) Z I J := gq_iload e_119_193 rfl
theorem e_119_195 : g_Pg 119 195 = ga_iload 9 197 := (congrFun pg_119 195).trans rfl
theorem q_119_195 {l0 l1 l2 l3 l4 l5 l6 l7 l8 : Value} {x : Int32} {S : List Value} {Z : gZ} {I : gI} {J : gJ} : g_at 119 195 [l0, l1, l2, l3, l4, l5, l6, l7, l8, .int x] S Z I J = g_at 119 197 [l0, l1, l2, l3, l4, l5, l6, l7, l8, .int x] (.int x :: S) Z I J := gq_iload e_119_195 rfl
theorem e_119_197 : g_Pg 119 197 = ga_iast 198 := (congrFun pg_119 197).trans rfl
theorem q_119_197 {L : List Value} {a : Nat} {i : Int32} {v : Int32} {S : List Value} {Z : gZ} {I : gI} {J : gJ} (h : (gKd Z a).1 = 8) (h0 : 0 ≤ i) (h1 : i.toNatClampNeg < (gKd Z a).2) : g_at 119 197 L (.int v :: .int i :: .ref a :: S) Z I J = g_at 119 198 L S Z (va_up I a (va_up (I a) i.toNatClampNeg v)) J := gq_iast e_119_197 h h0 h1
theorem e_119_198 : g_Pg 119 198 = ga_iinc 6 1 201 := (congrFun pg_119 198).trans rfl
theorem q_119_198 {l0 l1 l2 l3 l4 l5 l7 l8 l9 : Value} {x : Int32} {S : List Value} {Z : gZ} {I : gI} {J : gJ} (h : gN1 l5 = true) : g_at 119 198 [l0, l1, l2, l3, l4, l5, .int x, l7, l8, l9] S Z I J = g_at 119 201 [l0, l1, l2, l3, l4, l5, .int (x + 1), l7, l8, l9] S Z I J := gq_iinc e_119_198 rfl h rfl
theorem e_119_201 : g_Pg 119 201 = ga_iinc 9 1 204 := (congrFun pg_119 201).trans rfl
theorem q_119_201 {l0 l1 l2 l3 l4 l5 l6 l7 l8 : Value} {x : Int32} {S : List Value} {Z : gZ} {I : gI} {J : gJ} (h : gN1 l8 = true) : g_at 119 201 [l0, l1, l2, l3, l4, l5, l6, l7, l8, .int x] S Z I J = g_at 119 204 [l0, l1, l2, l3, l4, l5, l6, l7, l8, .int (x + 1)] S Z I J := gq_iinc e_119_201 rfl h rfl
theorem e_119_204 : g_Pg 119 204 = ga_goto 124 := (congrFun pg_119 204).trans rfl
theorem q_119_204 {L : List Value} {S : List Value} {Z : gZ} {I : gI} {J : gJ} : g_at 119 204 L S Z I J = g_at 119 124 L S Z I J := gq_goto e_119_204
theorem e_119_207 : g_Pg 119 207 = ga_iinc 7 1 210 := (congrFun pg_119 207).trans rfl
theorem q_119_207 {l0 l1 l2 l3 l4 l5 l6 l8 l9 : Value} {x : Int32} {S : List Value} {Z : gZ} {I : gI} {J : gJ} (h : gN1 l6 = true) : g_at 119 207 [l0, l1, l2, l3, l4, l5, l6, .int x, l8, l9] S Z I J = g_at 119 210 [l0, l1, l2, l3, l4, l5, l6, .int (x + 1), l8, l9] S Z I J := gq_iinc e_119_207 rfl h rfl
theorem e_119_210 : g_Pg 119 210 = ga_goto 94 := (congrFun pg_119 210).trans rfl
theorem q_119_210 {L : List Value} {S : List Value} {Z : gZ} {I : gI} {J : gJ} : g_at 119 210 L S Z I J = g_at 119 94 L S Z I J := gq_goto e_119_210
theorem e_119_213 : g_Pg 119 213 = ga_iinc 5 1 216 := (congrFun pg_119 213).trans rfl
theorem q_119_213 {l0 l1 l2 l3 l4 l6 l7 l8 l9 : Value} {x : Int32} {S : List Value} {Z : gZ} {I : gI} {J : gJ} (h : gN1 l4 = true) : g_at 119 213 [l0, l1, l2, l3, l4, .int x, l6, l7, l8, l9] S Z I J = g_at 119 216 [l0, l1, l2, l3, l4, .int (x + 1), l6, l7, l8, l9] S Z I J := gq_iinc e_119_213 rfl h rfl
theorem e_119_216 : g_Pg 119 216 = ga_goto 75 := (congrFun pg_119 216).trans rfl
theorem q_119_216 {L : List Value} {S : List Value} {Z : gZ} {I : gI} {J : gJ} : g_at 119 216 L S Z I J = g_at 119 75 L S Z I J := gq_goto e_119_216
theorem e_119_219 : g_Pg 119 219 = ga_aload 0 220 := (congrFun pg_119 219).trans rfl
theorem q_119_219 {l1 l2 l3 l4 l5 l6 l7 l8 l9 : Value} {x : Nat} {S : List Value} {Z : gZ} {I : gI} {J : gJ} : g_at 119 219 [.ref x, l1, l2, l3, l4, l5, l6, l7, l8, l9] S Z I J = g_at 119 220 [.ref x, l1, l2, l3, l4, l5, l6, l7, l8, l9] (.ref x :: S) Z I J := gq_aload e_119_219 rfl
theorem e_119_220 : g_Pg 119 220 = ga_getR 7 28 223 := (congrFun pg_119 220).trans rfl
theorem q_119_220 {L : List Value} {a : Nat} {S : List Value} {Z : gZ} {I : gI} {J : gJ} (h : (gKd Z a).1 = 7) (h1 : gRs Z a 28 = true) : g_at 119 220 L (.ref a :: S) Z I J = g_at 119 223 L (.ref (gRq Z a 28) :: S) Z I J := gq_getR e_119_220 h h1
theorem e_119_223 : g_Pg 119 223 = ga_iload 2 224 := (congrFun pg_119 223).trans rfl
theorem q_119_223 {l0 l1 l3 l4 l5 l6 l7 l8 l9 : Value} {x : Int32} {S : List Value} {Z : gZ} {I : gI} {J : gJ} : g_at 119 223 [l0, l1, .int x, l3, l4, l5, l6, l7, l8, l9] S Z I J = g_at 119 224 [l0, l1, .int x, l3, l4, l5, l6, l7, l8, l9] (.int x :: S) Z I J := gq_iload e_119_223 rfl
theorem e_119_224 : g_Pg 119 224 = ga_iald 225 := (congrFun pg_119 224).trans rfl
theorem q_119_224 {L : List Value} {a : Nat} {i : Int32} {S : List Value} {Z : gZ} {I : gI} {J : gJ} (h : gTg8 (gKd Z a).1 a = true) (h0 : 0 ≤ i) (h1 : i.toNatClampNeg < (gKd Z a).2) : g_at 119 224 L (.int i :: .ref a :: S) Z I J = g_at 119 225 L (.int (I a i.toNatClampNeg) :: S) Z I J := gq_iald e_119_224 h h0 h1
theorem e_119_225 : g_Pg 119 225 = ga_iret := (congrFun pg_119 225).trans rfl
theorem q_119_225 {L : List Value} {x : Int32} {Z : gZ} {I : gI} {J : gJ} : g_at 119 225 L [.int x] Z I J = some (some (.int x), Z, I, J) := gq_iret e_119_225
theorem e_120_0 : g_Pg 120 0 = ga_aload 0 1 := (congrFun pg_120 0).trans rfl
theorem q_120_0 {l1 l2 l3 l4 l5 : Value} {x : Nat} {S : List Value} {Z : gZ} {I : gI} {J : gJ} : g_at 120 0 [.ref x, l1, l2, l3, l4, l5] S Z I J = g_at 120 1 [.ref x, l1, l2, l3, l4, l5] (.ref x :: S) Z I J := gq_aload e_120_0 rfl
theorem e_120_1 : g_Pg 120 1 = ga_iload 1 2 := (congrFun pg_120 1).trans rfl
theorem q_120_1 {l0 l2 l3 l4 l5 : Value} {x : Int32} {S : List Value} {Z : gZ} {I : gI} {J : gJ} : g_at 120 1 [l0, .int x, l2, l3, l4, l5] S Z I J = g_at 120 2 [l0, .int x, l2, l3, l4, l5] (.int x :: S) Z I J := gq_iload e_120_1 rfl
theorem e_120_2 : g_Pg 120 2 = ga_iload 2 3 := (congrFun pg_120 2).trans rfl
theorem q_120_2 {l0 l1 l3 l4 l5 : Value} {x : Int32} {S : List Value} {Z : gZ} {I : gI} {J : gJ} : g_at 120 2 [l0, l1, .int x, l3, l4, l5] S Z I J = g_at 120 3 [l0, l1, .int x, l3, l4, l5] (.int x :: S) Z I J := gq_iload e_120_2 rfl
theorem e_120_3 : g_Pg 120 3 = ga_callV 7 113 2 6 := (congrFun pg_120 3).trans rfl
theorem q_120_3 {L : List Value} {a0 : Int32} {a1 : Int32} {a2 : Nat} {Z : gZ} {I : gI} {J : gJ} (h : (gKd Z a2).1 = 7) : g_at 120 3 L [.int a0, .int a1, .ref a2] Z I J = (g_at 113 0 [.ref a2, .int a1, .int a0, .null, .null, .null, .null] [] Z I J).bind (fun r => g_at 120 6 L (r.1.toList ++ []) r.2.1 r.2.2.1 r.2.2.2) := gq_callV e_120_3 rfl rfl h rfl rfl rfl rfl rfl
theorem e_120_6 : g_Pg 120 6 = ga_istore 4 8 := (congrFun pg_120 6).trans rfl
theorem q_120_6 {l0 l1 l2 l3 l4 l5 : Value} {x : Int32} {S : List Value} {Z : gZ} {I : gI} {J : gJ} (h : gN1 l3 = true) : g_at 120 6 [l0, l1, l2, l3, l4, l5] (.int x :: S) Z I J = g_at 120 8 [l0, l1, l2, l3, .int x, l5] S Z I J := gq_istore e_120_6 h rfl rfl
theorem e_120_8 : g_Pg 120 8 = ga_aload 0 9 := (congrFun pg_120 8).trans rfl
theorem q_120_8 {l1 l2 l3 l4 l5 : Value} {x : Nat} {S : List Value} {Z : gZ} {I : gI} {J : gJ} : g_at 120 8 [.ref x, l1, l2, l3, l4, l5] S Z I J = g_at 120 9 [.ref x, l1, l2, l3, l4, l5] (.ref x :: S) Z I J := gq_aload e_120_8 rfl
theorem e_120_9 : g_Pg 120 9 = ga_iload 1 10 := (congrFun pg_120 9).trans rfl
theorem q_120_9 {l0 l2 l3 l4 l5 : Value} {x : Int32} {S : List Value} {Z : gZ} {I : gI} {J : gJ} : g_at 120 9 [l0, .int x, l2, l3, l4, l5] S Z I J = g_at 120 10 [l0, .int x, l2, l3, l4, l5] (.int x :: S) Z I J := gq_iload e_120_9 rfl
theorem e_120_10 : g_Pg 120 10 = ga_iload 3 11 := (congrFun pg_120 10).trans rfl
theorem q_120_10 {l0 l1 l2 l4 l5 : Value} {x : Int32} {S : List Value} {Z : gZ} {I : gI} {J : gJ} : g_at 120 10 [l0, l1, l2, .int x, l4, l5] S Z I J = g_at 120 11 [l0, l1, l2, .int x, l4, l5] (.int x :: S) Z I J := gq_iload e_120_10 rfl
theorem e_120_11 : g_Pg 120 11 = ga_callV 7 113 2 14 := (congrFun pg_120 11).trans rfl
theorem q_120_11 {L : List Value} {a0 : Int32} {a1 : Int32} {a2 : Nat} {Z : gZ} {I : gI} {J : gJ} (h : (gKd Z a2).1 = 7) : g_at 120 11 L [.int a0, .int a1, .ref a2] Z I J = (g_at 113 0 [.ref a2, .int a1, .int a0, .null, .null, .null, .null] [] Z I J).bind (fun r => g_at 120 14 L (r.1.toList ++ []) r.2.1 r.2.2.1 r.2.2.2) := gq_callV e_120_11 rfl rfl h rfl rfl rfl rfl rfl
theorem e_120_14 : g_Pg 120 14 = ga_istore 5 16 := (congrFun pg_120 14).trans rfl
theorem q_120_14 {l0 l1 l2 l3 l4 l5 : Value} {x : Int32} {S : List Value} {Z : gZ} {I : gI} {J : gJ} (h : gN1 l4 = true) : g_at 120 14 [l0, l1, l2, l3, l4, l5] (.int x :: S) Z I J = g_at 120 16 [l0, l1, l2, l3, l4, .int x] S Z I J := gq_istore e_120_14 h rfl rfl
theorem e_120_16 : g_Pg 120 16 = ga_iload 4 18 := (congrFun pg_120 16).trans rfl
theorem q_120_16 {l0 l1 l2 l3 l5 : Value} {x : Int32} {S : List Value} {Z : gZ} {I : gI} {J : gJ} : g_at 120 16 [l0, l1, l2, l3, .int x, l5] S Z I J = g_at 120 18 [l0, l1, l2, l3, .int x, l5] (.int x :: S) Z I J := gq_iload e_120_16 rfl
theorem e_120_18 : g_Pg 120 18 = ga_push (.int (-1)) 19 := (congrFun pg_120 18).trans rfl
theorem q_120_18 {L : List Value} {S : List Value} {Z : gZ} {I : gI} {J : gJ} : g_at 120 18 L S Z I J = g_at 120 19 L (.int (-1) :: S) Z I J := gq_push e_120_18
theorem e_120_19 : g_Pg 120 19 = ga_cmp (fun x y => decide (x = y)) 28 22 := (congrFun pg_120 19).trans rfl
theorem q_120_19 {L : List Value} {x y : Int32} {S : List Value} {Z : gZ} {I : gI} {J : gJ} : g_at 120 19 L (.int y :: .int x :: S) Z I J = if x = y then g_at 120 28 L S Z I J else g_at 120 22 L S Z I J := gq_cmp e_120_19 rfl
theorem e_120_22 : g_Pg 120 22 = ga_iload 5 24 := (congrFun pg_120 22).trans rfl
theorem q_120_22 {l0 l1 l2 l3 l4 : Value} {x : Int32} {S : List Value} {Z : gZ} {I : gI} {J : gJ} : g_at 120 22 [l0, l1, l2, l3, l4, .int x] S Z I J = g_at 120 24 [l0, l1, l2, l3, l4, .int x] (.int x :: S) Z I J := gq_iload e_120_22 rfl
theorem e_120_24 : g_Pg 120 24 = ga_push (.int (-1)) 25 := (congrFun pg_120 24).trans rfl
theorem q_120_24 {L : List Value} {S : List Value} {Z : gZ} {I : gI} {J : gJ} : g_at 120 24 L S Z I J = g_at 120 25 L (.int (-1) :: S) Z I J := gq_push e_120_24
theorem e_120_25 : g_Pg 120 25 = ga_cmp (fun x y => decide (¬ x = y)) 32 28 := (congrFun pg_120 25).trans rfl
theorem q_120_25 {L : List Value} {x y : Int32} {S : List Value} {Z : gZ} {I : gI} {J : gJ} : g_at 120 25 L (.int y :: .int x :: S) Z I J = if ¬ x = y then g_at 120 32 L S Z I J else g_at 120 28 L S Z I J := gq_cmp e_120_25 rfl
theorem e_120_28 : g_Pg 120 28 = ga_push (.int (-1)) 29 := (congrFun pg_120 28).trans rfl
theorem q_120_28 {L : List Value} {S : List Value} {Z : gZ} {I : gI} {J : gJ} : g_at 120 28 L S Z I J = g_at 120 29 L (.int (-1) :: S) Z I J := gq_push e_120_28
theorem e_120_29 : g_Pg 120 29 = ga_goto 52 := (congrFun pg_120 29).trans rfl
theorem q_120_29 {L : List Value} {S : List Value} {Z : gZ} {I : gI} {J : gJ} : g_at 120 29 L S Z I J = g_at 120 52 L S Z I J := gq_goto e_120_29
theorem e_120_32 : g_Pg 120 32 = ga_iload 4 34 := (congrFun pg_120 32).trans rfl
theorem q_120_32 {l0 l1 l2 l3 l5 : Value} {x : Int32} {S : List Value} {Z : gZ} {I : gI} {J : gJ} : g_at 120 32 [l0, l1, l2, l3, .int x, l5] S Z I J = g_at 120 34 [l0, l1, l2, l3, .int x, l5] (.int x :: S) Z I J := gq_iload e_120_32 rfl
theorem e_120_34 : g_Pg 120 34 = ga_iload 5 36 := (congrFun pg_120 34).trans rfl
theorem q_120_34 {l0 l1 l2 l3 l4 : Value} {x : Int32} {S : List Value} {Z : gZ} {I : gI} {J : gJ} : g_at 120 34 [l0, l1, l2, l3, l4, .int x] S Z I J = g_at 120 36 [l0, l1, l2, l3, l4, .int x] (.int x :: S) Z I J := gq_iload e_120_34 rfl
theorem e_120_36 : g_Pg 120 36 = ga_cmp (fun x y => decide (x ≤ y)) 47 39 := (congrFun pg_120 36).trans rfl
theorem q_120_36 {L : List Value} {x y : Int32} {S : List Value} {Z : gZ} {I : gI} {J : gJ} : g_at 120 36 L (.int y :: .int x :: S) Z I J = if x ≤ y then g_at 120 47 L S Z I J else g_at 120 39 L S Z I J := gq_cmp e_120_36 rfl
theorem e_120_39 : g_Pg 120 39 = ga_iload 4 41 := (congrFun pg_120 39).trans rfl
theorem q_120_39 {l0 l1 l2 l3 l5 : Value} {x : Int32} {S : List Value} {Z : gZ} {I : gI} {J : gJ} : g_at 120 39 [l0, l1, l2, l3, .int x, l5] S Z I J = g_at 120 41 [l0, l1, l2, l3, .int x, l5] (.int x :: S) Z I J := gq_iload e_120_39 rfl
theorem e_120_41 : g_Pg 120 41 = ga_iload 5 43 := (congrFun pg_120 41).trans rfl
theorem q_120_41 {l0 l1 l2 l3 l4 : Value} {x : Int32} {S : List Value} {Z : gZ} {I : gI} {J : gJ} : g_at 120 41 [l0, l1, l2, l3, l4, .int x] S Z I J = g_at 120 43 [l0, l1, l2, l3, l4, .int x] (.int x :: S) Z I J := gq_iload e_120_41 rfl
theorem e_120_43 : g_Pg 120 43 = ga_bin (fun x y => x - y) 44 := (congrFun pg_120 43).trans rfl
theorem q_120_43 {L : List Value} {x y : Int32} {S : List Value} {Z : gZ} {I : gI} {J : gJ} : g_at 120 43 L (.int y :: .int x :: S) Z I J = g_at 120 44 L (.int (x - y) :: S) Z I J := gq_bin e_120_43
theorem e_120_44 : g_Pg 120 44 = ga_goto 52 := (congrFun pg_120 44).trans rfl
theorem q_120_44 {L : List Value} {S : List Value} {Z : gZ} {I : gI} {J : gJ} : g_at 120 44 L S Z I J = g_at 120 52 L S Z I J := gq_goto e_120_44
theorem e_120_47 : g_Pg 120 47 = ga_iload 5 49 := (congrFun pg_120 47).trans rfl
theorem q_120_47 {l0 l1 l2 l3 l4 : Value} {x : Int32} {S : List Value} {Z : gZ} {I : gI} {J : gJ} : g_at 120 47 [l0, l1, l2, l3, l4, .int x] S Z I J = g_at 120 49 [l0, l1, l2, l3, l4, .int x] (.int x :: S) Z I J := gq_iload e_120_47 rfl
theorem e_120_49 : g_Pg 120 49 = ga_iload 4 51 := (congrFun pg_120 49).trans rfl
theorem q_120_49 {l0 l1 l2 l3 l5 : Value} {x : Int32} {S : List Value} {Z : gZ} {I : gI} {J : gJ} : g_at 120 49 [l0, l1, l2, l3, .int x, l5] S Z I J = g_at 120 51 [l0, l1, l2, l3, .int x, l5] (.int x :: S) Z I J := gq_iload e_120_49 rfl
theorem e_120_51 : g_Pg 120 51 = ga_bin (fun x y => x - y) 52 := (congrFun pg_120 51).trans rfl
theorem q_120_51 {L : List Value} {x y : Int32} {S : List Value} {Z : gZ} {I : gI} {J : gJ} : g_at 120 51 L (.int y :: .int x :: S) Z I J = g_at 120 52 L (.int (x - y) :: S) Z I J := gq_bin e_120_51
theorem e_120_52 : g_Pg 120 52 = ga_iret := (congrFun pg_120 52).trans rfl
theorem q_120_52 {L : List Value} {x : Int32} {Z : gZ} {I : gI} {J : gJ} : g_at 120 52 L [.int x] Z I J = some (some (.int x), Z, I, J) := gq_iret e_120_52
theorem e_121_0 : g_Pg 121 0 = ga_aload 0 1 := (congrFun pg_121 0).trans rfl
theorem q_121_0 {l1 l2 l3 : Value} {x : Nat} {S : List Value} {Z : gZ} {I : gI} {J : gJ} : g_at 121 0 [.ref x, l1, l2, l3] S Z I J = g_at 121 1 [.ref x, l1, l2, l3] (.ref x :: S) Z I J := gq_aload e_121_0 rfl
theorem e_121_1 : g_Pg 121 1 = ga_iload 1 2 := (congrFun pg_121 1).trans rfl
theorem q_121_1 {l0 l2 l3 : Value} {x : Int32} {S : List Value} {Z : gZ} {I : gI} {J : gJ} : g_at 121 1 [l0, .int x, l2, l3] S Z I J = g_at 121 2 [l0, .int x, l2, l3] (.int x :: S) Z I J := gq_iload e_121_1 rfl
theorem e_121_2 : g_Pg 121 2 = ga_callV 7 85 1 5 := (congrFun pg_121 2).trans rfl
theorem q_121_2 {L : List Value} {a0 : Int32} {a1 : Nat} {Z : gZ} {I : gI} {J : gJ} (h : (gKd Z a1).1 = 7) : g_at 121 2 L [.int a0, .ref a1] Z I J = (g_at 85 0 [.ref a1, .int a0] [] Z I J).bind (fun r => g_at 121 5 L (r.1.toList ++ []) r.2.1 r.2.2.1 r.2.2.2) := gq_callV e_121_2 rfl rfl h rfl rfl rfl rfl rfl
theorem e_121_5 : g_Pg 121 5 = ga_if (fun x => decide (x = 0)) 34 8 := (congrFun pg_121 5).trans rfl
theorem q_121_5 {L : List Value} {x : Int32} {S : List Value} {Z : gZ} {I : gI} {J : gJ} : g_at 121 5 L (.int x :: S) Z I J = if x = 0 then g_at 121 34 L S Z I J else g_at 121 8 L S Z I J := gq_if e_121_5 rfl
theorem e_121_8 : g_Pg 121 8 = ga_aload 0 9 := (congrFun pg_121 8).trans rfl
theorem q_121_8 {l1 l2 l3 : Value} {x : Nat} {S : List Value} {Z : gZ} {I : gI} {J : gJ} : g_at 121 8 [.ref x, l1, l2, l3] S Z I J = g_at 121 9 [.ref x, l1, l2, l3] (.ref x :: S) Z I J := gq_aload e_121_8 rfl
theorem e_121_9 : g_Pg 121 9 = ga_iload 2 10 := (congrFun pg_121 9).trans rfl
theorem q_121_9 {l0 l1 l3 : Value} {x : Int32} {S : List Value} {Z : gZ} {I : gI} {J : gJ} : g_at 121 9 [l0, l1, .int x, l3] S Z I J = g_at 121 10 [l0, l1, .int x, l3] (.int x :: S) Z I J := gq_iload e_121_9 rfl
theorem e_121_10 : g_Pg 121 10 = ga_callV 7 85 1 13 := (congrFun pg_121 10).trans rfl
theorem q_121_10 {L : List Value} {a0 : Int32} {a1 : Nat} {Z : gZ} {I : gI} {J : gJ} (h : (gKd Z a1).1 = 7) : g_at 121 10 L [.int a0, .ref a1] Z I J = (g_at 85 0 [.ref a1, .int a0] [] Z I J).bind (fun r => g_at 121 13 L (r.1.toList ++ []) r.2.1 r.2.2.1 r.2.2.2) := gq_callV e_121_10 rfl rfl h rfl rfl rfl rfl rfl
theorem e_121_13 : g_Pg 121 13 = ga_if (fun x => decide (x = 0)) 34 16 := (congrFun pg_121 13).trans rfl
theorem q_121_13 {L : List Value} {x : Int32} {S : List Value} {Z : gZ} {I : gI} {J : gJ} : g_at 121 13 L (.int x :: S) Z I J = if x = 0 then g_at 121 34 L S Z I J else g_at 121 16 L S Z I J := gq_if e_121_13 rfl
theorem e_121_16 : g_Pg 121 16 = ga_aload 0 17 := (congrFun pg_121 16).trans rfl
theorem q_121_16 {l1 l2 l3 : Value} {x : Nat} {S : List Value} {Z : gZ} {I : gI} {J : gJ} : g_at 121 16 [.ref x, l1, l2, l3] S Z I J = g_at 121 17 [.ref x, l1, l2, l3] (.ref x :: S) Z I J := gq_aload e_121_16 rfl
theorem e_121_17 : g_Pg 121 17 = ga_iload 3 18 := (congrFun pg_121 17).trans rfl
theorem q_121_17 {l0 l1 l2 : Value} {x : Int32} {S : List Value} {Z : gZ} {I : gI} {J : gJ} : g_at 121 17 [l0, l1, l2, .int x] S Z I J = g_at 121 18 [l0, l1, l2, .int x] (.int x :: S) Z I J := gq_iload e_121_17 rfl
theorem e_121_18 : g_Pg 121 18 = ga_callV 7 85 1 21 := (congrFun pg_121 18).trans rfl
theorem q_121_18 {L : List Value} {a0 : Int32} {a1 : Nat} {Z : gZ} {I : gI} {J : gJ} (h : (gKd Z a1).1 = 7) : g_at 121 18 L [.int a0, .ref a1] Z I J = (g_at 85 0 [.ref a1, .int a0] [] Z I J).bind (fun r => g_at 121 21 L (r.1.toList ++ []) r.2.1 r.2.2.1 r.2.2.2) := gq_callV e_121_18 rfl rfl h rfl rfl rfl rfl rfl
theorem e_121_21 : g_Pg 121 21 = ga_if (fun x => decide (x = 0)) 34 24 := (congrFun pg_121 21).trans rfl
theorem q_121_21 {L : List Value} {x : Int32} {S : List Value} {Z : gZ} {I : gI} {J : gJ} : g_at 121 21 L (.int x :: S) Z I J = if x = 0 then g_at 121 34 L S Z I J else g_at 121 24 L S Z I J := gq_if e_121_21 rfl
theorem e_121_24 : g_Pg 121 24 = ga_aload 0 25 := (congrFun pg_121 24).trans rfl
theorem q_121_24 {l1 l2 l3 : Value} {x : Nat} {S : List Value} {Z : gZ} {I : gI} {J : gJ} : g_at 121 24 [.ref x, l1, l2, l3] S Z I J = g_at 121 25 [.ref x, l1, l2, l3] (.ref x :: S) Z I J := gq_aload e_121_24 rfl
theorem e_121_25 : g_Pg 121 25 = ga_iload 1 26 := (congrFun pg_121 25).trans rfl
theorem q_121_25 {l0 l2 l3 : Value} {x : Int32} {S : List Value} {Z : gZ} {I : gI} {J : gJ} : g_at 121 25 [l0, .int x, l2, l3] S Z I J = g_at 121 26 [l0, .int x, l2, l3] (.int x :: S) Z I J := gq_iload e_121_25 rfl
theorem e_121_26 : g_Pg 121 26 = ga_iload 2 27 := (congrFun pg_121 26).trans rfl
theorem q_121_26 {l0 l1 l3 : Value} {x : Int32} {S : List Value} {Z : gZ} {I : gI} {J : gJ} : g_at 121 26 [l0, l1, .int x, l3] S Z I J = g_at 121 27 [l0, l1, .int x, l3] (.int x :: S) Z I J := gq_iload e_121_26 rfl
theorem e_121_27 : g_Pg 121 27 = ga_iload 3 28 := (congrFun pg_121 27).trans rfl
theorem q_121_27 {l0 l1 l2 : Value} {x : Int32} {S : List Value} {Z : gZ} {I : gI} {J : gJ} : g_at 121 27 [l0, l1, l2, .int x] S Z I J = g_at 121 28 [l0, l1, l2, .int x] (.int x :: S) Z I J := gq_iload e_121_27 rfl
theorem e_121_28 : g_Pg 121 28 = ga_callV 7 120 3 31 := (congrFun pg_121 28).trans rfl
theorem q_121_28 {L : List Value} {a0 : Int32} {a1 : Int32} {a2 : Int32} {a3 : Nat} {Z : gZ} {I : gI} {J : gJ} (h : (gKd Z a3).1 = 7) : g_at 121 28 L [.int a0, .int a1, .int a2, .ref a3] Z I J = (g_at 120 0 [.ref a3, .int a2, .int a1, .int a0, .null, .null] [] Z I J).bind (fun r => g_at 121 31 L (r.1.toList ++ []) r.2.1 r.2.2.1 r.2.2.2) := gq_callV e_121_28 rfl rfl h rfl rfl rfl rfl rfl
theorem e_121_31 : g_Pg 121 31 = ga_goto 36 := (congrFun pg_121 31).trans rfl
theorem q_121_31 {L : List Value} {S : List Value} {Z : gZ} {I : gI} {J : gJ} : g_at 121 31 L S Z I J = g_at 121 36 L S Z I J := gq_goto e_121_31
theorem e_121_34 : g_Pg 121 34 = ga_push (.int (-2)) 36 := (congrFun pg_121 34).trans rfl
theorem q_121_34 {L : List Value} {S : List Value} {Z : gZ} {I : gI} {J : gJ} : g_at 121 34 L S Z I J = g_at 121 36 L (.int (-2) :: S) Z I J := gq_push e_121_34
theorem e_121_36 : g_Pg 121 36 = ga_iret := (congrFun pg_121 36).trans rfl
theorem q_121_36 {L : List Value} {x : Int32} {Z : gZ} {I : gI} {J : gJ} : g_at 121 36 L [.int x] Z I J = some (some (.int x), Z, I, J) := gq_iret e_121_36
theorem e_122_0 : g_Pg 122 0 = ga_aload 0 1 := (congrFun pg_122 0).trans rfl
theorem q_122_0 {l1 l2 l3 l4 : Value} {x : Nat} {S : List Value} {Z : gZ} {I : gI} {J : gJ} : g_at 122 0 [.ref x, l1, l2, l3, l4] S Z I J = g_at 122 1 [.ref x, l1, l2, l3, l4] (.ref x :: S) Z I J := gq_aload e_122_0 rfl
theorem e_122_1 : g_Pg 122 1 = ga_getR 7 3 4 := (congrFun pg_122 1).trans rfl
theorem q_122_1 {L : List Value} {a : Nat} {S : List Value} {Z : gZ} {I : gI} {J : gJ} (h : (gKd Z a).1 = 7) (h1 : gRs Z a 3 = true) : g_at 122 1 L (.ref a :: S) Z I J = g_at 122 4 L (.ref (gRq Z a 3) :: S) Z I J := gq_getR e_122_1 h h1
theorem e_122_4 : g_Pg 122 4 = ga_iload 1 5 := (congrFun pg_122 4).trans rfl
theorem q_122_4 {l0 l2 l3 l4 : Value} {x : Int32} {S : List Value} {Z : gZ} {I : gI} {J : gJ} : g_at 122 4 [l0, .int x, l2, l3, l4] S Z I J = g_at 122 5 [l0, .int x, l2, l3, l4] (.int x :: S) Z I J := gq_iload e_122_4 rfl
theorem e_122_5 : g_Pg 122 5 = ga_iald 6 := (congrFun pg_122 5).trans rfl
theorem q_122_5 {L : List Value} {a : Nat} {i : Int32} {S : List Value} {Z : gZ} {I : gI} {J : gJ} (h : gTg8 (gKd Z a).1 a = true) (h0 : 0 ≤ i) (h1 : i.toNatClampNeg < (gKd Z a).2) : g_at 122 5 L (.int i :: .ref a :: S) Z I J = g_at 122 6 L (.int (I a i.toNatClampNeg) :: S) Z I J := gq_iald e_122_5 h h0 h1
theorem e_122_6 : g_Pg 122 6 = ga_istore 3 7 := (congrFun pg_122 6).trans rfl
theorem q_122_6 {l0 l1 l2 l3 l4 : Value} {x : Int32} {S : List Value} {Z : gZ} {I : gI} {J : gJ} (h : gN1 l2 = true) : g_at 122 6 [l0, l1, l2, l3, l4] (.int x :: S) Z I J = g_at 122 7 [l0, l1, l2, .int x, l4] S Z I J := gq_istore e_122_6 h rfl rfl
theorem e_122_7 : g_Pg 122 7 = ga_aload 0 8 := (congrFun pg_122 7).trans rfl
theorem q_122_7 {l1 l2 l3 l4 : Value} {x : Nat} {S : List Value} {Z : gZ} {I : gI} {J : gJ} : g_at 122 7 [.ref x, l1, l2, l3, l4] S Z I J = g_at 122 8 [.ref x, l1, l2, l3, l4] (.ref x :: S) Z I J := gq_aload e_122_7 rfl
theorem e_122_8 : g_Pg 122 8 = ga_getR 7 3 11 := (congrFun pg_122 8).trans rfl
theorem q_122_8 {L : List Value} {a : Nat} {S : List Value} {Z : gZ} {I : gI} {J : gJ} (h : (gKd Z a).1 = 7) (h1 : gRs Z a 3 = true) : g_at 122 8 L (.ref a :: S) Z I J = g_at 122 11 L (.ref (gRq Z a 3) :: S) Z I J := gq_getR e_122_8 h h1
theorem e_122_11 : g_Pg 122 11 = ga_iload 1 12 := (congrFun pg_122 11).trans rfl
theorem q_122_11 {l0 l2 l3 l4 : Value} {x : Int32} {S : List Value} {Z : gZ} {I : gI} {J : gJ} : g_at 122 11 [l0, .int x, l2, l3, l4] S Z I J = g_at 122 12 [l0, .int x, l2, l3, l4] (.int x :: S) Z I J := gq_iload e_122_11 rfl
theorem e_122_12 : g_Pg 122 12 = ga_aload 0 13 := (congrFun pg_122 12).trans rfl
theorem q_122_12 {l1 l2 l3 l4 : Value} {x : Nat} {S : List Value} {Z : gZ} {I : gI} {J : gJ} : g_at 122 12 [.ref x, l1, l2, l3, l4] S Z I J = g_at 122 13 [.ref x, l1, l2, l3, l4] (.ref x :: S) Z I J := gq_aload e_122_12 rfl
theorem e_122_13 : g_Pg 122 13 = ga_getR 7 3 16 := (congrFun pg_122 13).trans rfl
theorem q_122_13 {L : List Value} {a : Nat} {S : List Value} {Z : gZ} {I : gI} {J : gJ} (h : (gKd Z a).1 = 7) (h1 : gRs Z a 3 = true) : g_at 122 13 L (.ref a :: S) Z I J = g_at 122 16 L (.ref (gRq Z a 3) :: S) Z I J := gq_getR e_122_13 h h1
theorem e_122_16 : g_Pg 122 16 = ga_iload 2 17 := (congrFun pg_122 16).trans rfl
theorem q_122_16 {l0 l1 l3 l4 : Value} {x : Int32} {S : List Value} {Z : gZ} {I : gI} {J : gJ} : g_at 122 16 [l0, l1, .int x, l3, l4] S Z I J = g_at 122 17 [l0, l1, .int x, l3, l4] (.int x :: S) Z I J := gq_iload e_122_16 rfl
theorem e_122_17 : g_Pg 122 17 = ga_iald 18 := (congrFun pg_122 17).trans rfl
theorem q_122_17 {L : List Value} {a : Nat} {i : Int32} {S : List Value} {Z : gZ} {I : gI} {J : gJ} (h : gTg8 (gKd Z a).1 a = true) (h0 : 0 ≤ i) (h1 : i.toNatClampNeg < (gKd Z a).2) : g_at 122 17 L (.int i :: .ref a :: S) Z I J = g_at 122 18 L (.int (I a i.toNatClampNeg) :: S) Z I J := gq_iald e_122_17 h h0 h1
theorem e_122_18 : g_Pg 122 18 = ga_iast 19 := (congrFun pg_122 18).trans rfl
theorem q_122_18 {L : List Value} {a : Nat} {i : Int32} {v : Int32} {S : List Value} {Z : gZ} {I : gI} {J : gJ} (h : (gKd Z a).1 = 8) (h0 : 0 ≤ i) (h1 : i.toNatClampNeg < (gKd Z a).2) : g_at 122 18 L (.int v :: .int i :: .ref a :: S) Z I J = g_at 122 19 L S Z (va_up I a (va_up (I a) i.toNatClampNeg v)) J := gq_iast e_122_18 h h0 h1
theorem e_122_19 : g_Pg 122 19 = ga_aload 0 20 := (congrFun pg_122 19).trans rfl
theorem q_122_19 {l1 l2 l3 l4 : Value} {x : Nat} {S : List Value} {Z : gZ} {I : gI} {J : gJ} : g_at 122 19 [.ref x, l1, l2, l3, l4] S Z I J = g_at 122 20 [.ref x, l1, l2, l3, l4] (.ref x :: S) Z I J := gq_aload e_122_19 rfl
theorem e_122_20 : g_Pg 122 20 = ga_getR 7 3 23 := (congrFun pg_122 20).trans rfl
theorem q_122_20 {L : List Value} {a : Nat} {S : List Value} {Z : gZ} {I : gI} {J : gJ} (h : (gKd Z a).1 = 7) (h1 : gRs Z a 3 = true) : g_at 122 20 L (.ref a :: S) Z I J = g_at 122 23 L (.ref (gRq Z a 3) :: S) Z I J := gq_getR e_122_20 h h1
theorem e_122_23 : g_Pg 122 23 = ga_iload 2 24 := (congrFun pg_122 23).trans rfl
theorem q_122_23 {l0 l1 l3 l4 : Value} {x : Int32} {S : List Value} {Z : gZ} {I : gI} {J : gJ} : g_at 122 23 [l0, l1, .int x, l3, l4] S Z I J = g_at 122 24 [l0, l1, .int x, l3, l4] (.int x :: S) Z I J := gq_iload e_122_23 rfl
theorem e_122_24 : g_Pg 122 24 = ga_iload 3 25 := (congrFun pg_122 24).trans rfl
theorem q_122_24 {l0 l1 l2 l4 : Value} {x : Int32} {S : List Value} {Z : gZ} {I : gI} {J : gJ} : g_at 122 24 [l0, l1, l2, .int x, l4] S Z I J = g_at 122 25 [l0, l1, l2, .int x, l4] (.int x :: S) Z I J := gq_iload e_122_24 rfl
theorem e_122_25 : g_Pg 122 25 = ga_iast 26 := (congrFun pg_122 25).trans rfl
theorem q_122_25 {L : List Value} {a : Nat} {i : Int32} {v : Int32} {S : List Value} {Z : gZ} {I : gI} {J : gJ} (h : (gKd Z a).1 = 8) (h0 : 0 ≤ i) (h1 : i.toNatClampNeg < (gKd Z a).2) : g_at 122 25 L (.int v :: .int i :: .ref a :: S) Z I J = g_at 122 26 L S Z (va_up I a (va_up (I a) i.toNatClampNeg v)) J := gq_iast e_122_25 h h0 h1
theorem e_122_26 : g_Pg 122 26 = ga_aload 0 27 := (congrFun pg_122 26).trans rfl
theorem q_122_26 {l1 l2 l3 l4 : Value} {x : Nat} {S : List Value} {Z : gZ} {I : gI} {J : gJ} : g_at 122 26 [.ref x, l1, l2, l3, l4] S Z I J = g_at 122 27 [.ref x, l1, l2, l3, l4] (.ref x :: S) Z I J := gq_aload e_122_26 rfl
theorem e_122_27 : g_Pg 122 27 = ga_getR 7 4 30 := (congrFun pg_122 27).trans rfl
theorem q_122_27 {L : List Value} {a : Nat} {S : List Value} {Z : gZ} {I : gI} {J : gJ} (h : (gKd Z a).1 = 7) (h1 : gRs Z a 4 = true) : g_at 122 27 L (.ref a :: S) Z I J = g_at 122 30 L (.ref (gRq Z a 4) :: S) Z I J := gq_getR e_122_27 h h1
theorem e_122_30 : g_Pg 122 30 = ga_iload 1 31 := (congrFun pg_122 30).trans rfl
theorem q_122_30 {l0 l2 l3 l4 : Value} {x : Int32} {S : List Value} {Z : gZ} {I : gI} {J : gJ} : g_at 122 30 [l0, .int x, l2, l3, l4] S Z I J = g_at 122 31 [l0, .int x, l2, l3, l4] (.int x :: S) Z I J := gq_iload e_122_30 rfl
theorem e_122_31 : g_Pg 122 31 = ga_iald 32 := (congrFun pg_122 31).trans rfl
theorem q_122_31 {L : List Value} {a : Nat} {i : Int32} {S : List Value} {Z : gZ} {I : gI} {J : gJ} (h : gTg8 (gKd Z a).1 a = true) (h0 : 0 ≤ i) (h1 : i.toNatClampNeg < (gKd Z a).2) : g_at 122 31 L (.int i :: .ref a :: S) Z I J = g_at 122 32 L (.int (I a i.toNatClampNeg) :: S) Z I J := gq_iald e_122_31 h h0 h1
theorem e_122_32 : g_Pg 122 32 = ga_istore 4 34 := (congrFun pg_122 32).trans rfl
theorem q_122_32 {l0 l1 l2 l3 l4 : Value} {x : Int32} {S : List Value} {Z : gZ} {I : gI} {J : gJ} (h : gN1 l3 = true) : g_at 122 32 [l0, l1, l2, l3, l4] (.int x :: S) Z I J = g_at 122 34 [l0, l1, l2, l3, .int x] S Z I J := gq_istore e_122_32 h rfl rfl
theorem e_122_34 : g_Pg 122 34 = ga_aload 0 35 := (congrFun pg_122 34).trans rfl
theorem q_122_34 {l1 l2 l3 l4 : Value} {x : Nat} {S : List Value} {Z : gZ} {I : gI} {J : gJ} : g_at 122 34 [.ref x, l1, l2, l3, l4] S Z I J = g_at 122 35 [.ref x, l1, l2, l3, l4] (.ref x :: S) Z I J := gq_aload e_122_34 rfl
theorem e_122_35 : g_Pg 122 35 = ga_getR 7 4 38 := (congrFun pg_122 35).trans rfl
theorem q_122_35 {L : List Value} {a : Nat} {S : List Value} {Z : gZ} {I : gI} {J : gJ} (h : (gKd Z a).1 = 7) (h1 : gRs Z a 4 = true) : g_at 122 35 L (.ref a :: S) Z I J = g_at 122 38 L (.ref (gRq Z a 4) :: S) Z I J := gq_getR e_122_35 h h1
theorem e_122_38 : g_Pg 122 38 = ga_iload 1 39 := (congrFun pg_122 38).trans rfl
theorem q_122_38 {l0 l2 l3 l4 : Value} {x : Int32} {S : List Value} {Z : gZ} {I : gI} {J : gJ} : g_at 122 38 [l0, .int x, l2, l3, l4] S Z I J = g_at 122 39 [l0, .int x, l2, l3, l4] (.int x :: S) Z I J := gq_iload e_122_38 rfl
theorem e_122_39 : g_Pg 122 39 = ga_aload 0 40 := (congrFun pg_122 39).trans rfl
theorem q_122_39 {l1 l2 l3 l4 : Value} {x : Nat} {S : List Value} {Z : gZ} {I : gI} {J : gJ} : g_at 122 39 [.ref x, l1, l2, l3, l4] S Z I J = g_at 122 40 [.ref x, l1, l2, l3, l4] (.ref x :: S) Z I J := gq_aload e_122_39 rfl
theorem e_122_40 : g_Pg 122 40 = ga_getR 7 4 43 := (congrFun pg_122 40).trans rfl
theorem q_122_40 {L : List Value} {a : Nat} {S : List Value} {Z : gZ} {I : gI} {J : gJ} (h : (gKd Z a).1 = 7) (h1 : gRs Z a 4 = true) : g_at 122 40 L (.ref a :: S) Z I J = g_at 122 43 L (.ref (gRq Z a 4) :: S) Z I J := gq_getR e_122_40 h h1
theorem e_122_43 : g_Pg 122 43 = ga_iload 2 44 := (congrFun pg_122 43).trans rfl
theorem q_122_43 {l0 l1 l3 l4 : Value} {x : Int32} {S : List Value} {Z : gZ} {I : gI} {J : gJ} : g_at 122 43 [l0, l1, .int x, l3, l4] S Z I J = g_at 122 44 [l0, l1, .int x, l3, l4] (.int x :: S) Z I J := gq_iload e_122_43 rfl
theorem e_122_44 : g_Pg 122 44 = ga_iald 45 := (congrFun pg_122 44).trans rfl
theorem q_122_44 {L : List Value} {a : Nat} {i : Int32} {S : List Value} {Z : gZ} {I : gI} {J : gJ} (h : gTg8 (gKd Z a).1 a = true) (h0 : 0 ≤ i) (h1 : i.toNatClampNeg < (gKd Z a).2) : g_at 122 44 L (.int i :: .ref a :: S) Z I J = g_at 122 45 L (.int (I a i.toNatClampNeg) :: S) Z I J := gq_iald e_122_44 h h0 h1
theorem e_122_45 : g_Pg 122 45 = ga_iast 46 := (congrFun pg_122 45).trans rfl
theorem q_122_45 {L : List Value} {a : Nat} {i : Int32} {v : Int32} {S : List Value} {Z : gZ} {I : gI} {J : gJ} (h : (gKd Z a).1 = 8) (h0 : 0 ≤ i) (h1 : i.toNatClampNeg < (gKd Z a).2) : g_at 122 45 L (.int v :: .int i :: .ref a :: S) Z I J = g_at 122 46 L S Z (va_up I a (va_up (I a) i.toNatClampNeg v)) J := gq_iast e_122_45 h h0 h1
theorem e_122_46 : g_Pg 122 46 = ga_aload 0 47 := (congrFun pg_122 46).trans rfl
theorem q_122_46 {l1 l2 l3 l4 : Value} {x : Nat} {S : List Value} {Z : gZ} {I : gI} {J : gJ} : g_at 122 46 [.ref x, l1, l2, l3, l4] S Z I J = g_at 122 47 [.ref x, l1, l2, l3, l4] (.ref x :: S) Z I J := gq_aload e_122_46 rfl
theorem e_122_47 : g_Pg 122 47 = ga_getR 7 4 50 := (congrFun pg_122 47).trans rfl
theorem q_122_47 {L : List Value} {a : Nat} {S : List Value} {Z : gZ} {I : gI} {J : gJ} (h : (gKd Z a).1 = 7) (h1 : gRs Z a 4 = true) : g_at 122 47 L (.ref a :: S) Z I J = g_at 122 50 L (.ref (gRq Z a 4) :: S) Z I J := gq_getR e_122_47 h h1
theorem e_122_50 : g_Pg 122 50 = ga_iload 2 51 := (congrFun pg_122 50).trans rfl
theorem q_122_50 {l0 l1 l3 l4 : Value} {x : Int32} {S : List Value} {Z : gZ} {I : gI} {J : gJ} : g_at 122 50 [l0, l1, .int x, l3, l4] S Z I J = g_at 122 51 [l0, l1, .int x, l3, l4] (.int x :: S) Z I J := gq_iload e_122_50 rfl
theorem e_122_51 : g_Pg 122 51 = ga_iload 4 53 := (congrFun pg_122 51).trans rfl
theorem q_122_51 {l0 l1 l2 l3 : Value} {x : Int32} {S : List Value} {Z : gZ} {I : gI} {J : gJ} : g_at 122 51 [l0, l1, l2, l3, .int x] S Z I J = g_at 122 53 [l0, l1, l2, l3, .int x] (.int x :: S) Z I J := gq_iload e_122_51 rfl
theorem e_122_53 : g_Pg 122 53 = ga_iast 54 := (congrFun pg_122 53).trans rfl
theorem q_122_53 {L : List Value} {a : Nat} {i : Int32} {v : Int32} {S : List Value} {Z : gZ} {I : gI} {J : gJ} (h : (gKd Z a).1 = 8) (h0 : 0 ≤ i) (h1 : i.toNatClampNeg < (gKd Z a).2) : g_at 122 53 L (.int v :: .int i :: .ref a :: S) Z I J = g_at 122 54 L S Z (va_up I a (va_up (I a) i.toNatClampNeg v)) J := gq_iast e_122_53 h h0 h1
theorem e_122_54 : g_Pg 122 54 = ga_vret := (congrFun pg_122 54).trans rfl
theorem q_122_54 {L : List Value} {Z : gZ} {I : gI} {J : gJ} : g_at 122 54 L [] Z I J = some (none, Z, I, J) := gq_vret e_122_54
theorem e_123_0 : g_Pg 123 0 = ga_aload 0 1 := (congrFun pg_123 0).trans rfl
theorem q_123_0 {l1 l2 l3 l4 l5 l6 l7 l8 l9 l10 : Value} {x : Nat} {S : List Value} {Z : gZ} {I : gI} {J : gJ} : g_at 123 0 [.ref x, l1, l2, l3, l4, l5, l6, l7, l8, l9, l10] S Z I J = g_at 123 1 [.ref x, l1, l2, l3, l4, l5, l6, l7, l8, l9, l10] (.ref x :: S) Z I J := gq_aload e_123_0 rfl
theorem e_123_1 : g_Pg 123 1 = ga_iload 1 2 := (congrFun pg_123 1).trans rfl
theorem q_123_1 {l0 l2 l3 l4 l5 l6 l7 l8 l9 l10 : Value} {x : Int32} {S : List Value} {Z : gZ} {I : gI} {J : gJ} : g_at 123 1 [l0, .int x, l2, l3, l4, l5, l6, l7, l8, l9, l10] S Z I J = g_at 123 2 [l0, .int x, l2, l3, l4, l5, l6, l7, l8, l9, l10] (.int x :: S) Z I J := gq_iload e_123_1 rfl
theorem e_123_2 : g_Pg 123 2 = ga_callV 7 85 1 5 := (congrFun pg_123 2).trans rfl
theorem q_123_2 {L : List Value} {a0 : Int32} {a1 : Nat} {Z : gZ} {I : gI} {J : gJ} (h : (gKd Z a1).1 = 7) : g_at 123 2 L [.int a0, .ref a1] Z I J = (g_at 85 0 [.ref a1, .int a0] [] Z I J).bind (fun r => g_at 123 5 L (r.1.toList ++ []) r.2.1 r.2.2.1 r.2.2.2) := gq_callV e_123_2 rfl rfl h rfl rfl rfl rfl rfl
theorem e_123_5 : g_Pg 123 5 = ga_if (fun x => decide (x = 0)) 24 8 := (congrFun pg_123 5).trans rfl
theorem q_123_5 {L : List Value} {x : Int32} {S : List Value} {Z : gZ} {I : gI} {J : gJ} : g_at 123 5 L (.int x :: S) Z I J = if x = 0 then g_at 123 24 L S Z I J else g_at 123 8 L S Z I J := gq_if e_123_5 rfl
theorem e_123_8 : g_Pg 123 8 = ga_aload 0 9 := (congrFun pg_123 8).trans rfl
theorem q_123_8 {l1 l2 l3 l4 l5 l6 l7 l8 l9 l10 : Value} {x : Nat} {S : List Value} {Z : gZ} {I : gI} {J : gJ} : g_at 123 8 [.ref x, l1, l2, l3, l4, l5, l6, l7, l8, l9, l10] S Z I J = g_at 123 9 [.ref x, l1, l2, l3, l4, l5, l6, l7, l8, l9, l10] (.ref x :: S) Z I J := gq_aload e_123_8 rfl
theorem e_123_9 : g_Pg 123 9 = ga_iload 2 10 := (congrFun pg_123 9).trans rfl
theorem q_123_9 {l0 l1 l3 l4 l5 l6 l7 l8 l9 l10 : Value} {x : Int32} {S : List Value} {Z : gZ} {I : gI} {J : gJ} : g_at 123 9 [l0, l1, .int x, l3, l4, l5, l6, l7, l8, l9, l10] S Z I J = g_at 123 10 [l0, l1, .int x, l3, l4, l5, l6, l7, l8, l9, l10] (.int x :: S) Z I J := gq_iload e_123_9 rfl
theorem e_123_10 : g_Pg 123 10 = ga_callV 7 85 1 13 := (congrFun pg_123 10).trans rfl
theorem q_123_10 {L : List Value} {a0 : Int32} {a1 : Nat} {Z : gZ} {I : gI} {J : gJ} (h : (gKd Z a1).1 = 7) : g_at 123 10 L [.int a0, .ref a1] Z I J = (g_at 85 0 [.ref a1, .int a0] [] Z I J).bind (fun r => g_at 123 13 L (r.1.toList ++ []) r.2.1 r.2.2.1 r.2.2.2) := gq_callV e_123_10 rfl rfl h rfl rfl rfl rfl rfl
theorem e_123_13 : g_Pg 123 13 = ga_if (fun x => decide (x = 0)) 24 16 := (congrFun pg_123 13).trans rfl
theorem q_123_13 {L : List Value} {x : Int32} {S : List Value} {Z : gZ} {I : gI} {J : gJ} : g_at 123 13 L (.int x :: S) Z I J = if x = 0 then g_at 123 24 L S Z I J else g_at 123 16 L S Z I J := gq_if e_123_13 rfl
theorem e_123_16 : g_Pg 123 16 = ga_aload 0 17 := (congrFun pg_123 16).trans rfl
theorem q_123_16 {l1 l2 l3 l4 l5 l6 l7 l8 l9 l10 : Value} {x : Nat} {S : List Value} {Z : gZ} {I : gI} {J : gJ} : g_at 123 16 [.ref x, l1, l2, l3, l4, l5, l6, l7, l8, l9, l10] S Z I J = g_at 123 17 [.ref x, l1, l2, l3, l4, l5, l6, l7, l8, l9, l10] (.ref x :: S) Z I J := gq_aload e_123_16 rfl
theorem e_123_17 : g_Pg 123 17 = ga_iload 3 18 := (congrFun pg_123 17).trans rfl
theorem q_123_17 {l0 l1 l2 l4 l5 l6 l7 l8 l9 l10 : Value} {x : Int32} {S : List Value} {Z : gZ} {I : gI} {J : gJ} : g_at 123 17 [l0, l1, l2, .int x, l4, l5, l6, l7, l8, l9, l10] S Z I J = g_at 123 18 [l0, l1, l2, .int x, l4, l5, l6, l7, l8, l9, l10] (.int x :: S) Z I J := gq_iload e_123_17 rfl
theorem e_123_18 : g_Pg 123 18 = ga_callV 7 85 1 21 := (congrFun pg_123 18).trans rfl
theorem q_123_18 {L : List Value} {a0 : Int32} {a1 : Nat} {Z : gZ} {I : gI} {J : gJ} (h : (gKd Z a1).1 = 7) : g_at 123 18 L [.int a0, .ref a1] Z I J = (g_at 85 0 [.ref a1, .int a0] [] Z I J).bind (fun r => g_at 123 21 L (r.1.toList ++ []) r.2.1 r.2.2.1 r.2.2.2) := gq_callV e_123_18 rfl rfl h rfl rfl rfl rfl rfl
theorem e_123_21 : g_Pg 123 21 = ga_if (fun x => decide (¬ x = 0)) 27 24 := (congrFun pg_123 21).trans rfl
theorem q_123_21 {L : List Value} {x : Int32} {S : List Value} {Z : gZ} {I : gI} {J : gJ} : g_at 123 21 L (.int x :: S) Z I J = if ¬ x = 0 then g_at 123 27 L S Z I J else g_at 123 24 L S Z I J := gq_if e_123_21 rfl
theorem e_123_24 : g_Pg 123 24 = ga_push (.int (-2)) 26 := (congrFun pg_123 24).trans rfl
theorem q_123_24 {L : List Value} {S : List Value} {Z : gZ} {I : gI} {J : gJ} : g_at 123 24 L S Z I J = g_at 123 26 L (.int (-2) :: S) Z I J := gq_push e_123_24
theorem e_123_26 : g_Pg 123 26 = ga_iret := (congrFun pg_123 26).trans rfl
theorem q_123_26 {L : List Value} {x : Int32} {Z : gZ} {I : gI} {J : gJ} : g_at 123 26 L [.int x] Z I J = some (some (.int x), Z, I, J) := gq_iret e_123_26
theorem e_123_27 : g_Pg 123 27 = ga_iload 4 29 := (congrFun pg_123 27).trans rfl
theorem q_123_27 {l0 l1 l2 l3 l5 l6 l7 l8 l9 l10 : Value} {x : Int32} {S : List Value} {Z : gZ} {I : gI} {J : gJ} : g_at 123 27 [l0, l1, l2, l3, .int x, l5, l6, l7, l8, l9, l10] S Z I J = g_at 123 29 [l0, l1, l2, l3, .int x, l5, l6, l7, l8, l9, l10] (.int x :: S) Z I J := gq_iload e_123_27 rfl
theorem e_123_29 : g_Pg 123 29 = ga_push (.int 0) 30 := (congrFun pg_123 29).trans rfl
theorem q_123_29 {L : List Value} {S : List Value} {Z : gZ} {I : gI} {J : gJ} : g_at 123 29 L S Z I J = g_at 123 30 L (.int 0 :: S) Z I J := gq_push e_123_29
theorem e_123_30 : g_Pg 123 30 = ga_push (.int 2) 31 := (congrFun pg_123 30).trans rfl
theorem q_123_30 {L : List Value} {S : List Value} {Z : gZ} {I : gI} {J : gJ} : g_at 123 30 L S Z I J = g_at 123 31 L (.int 2 :: S) Z I J := gq_push e_123_30
theorem e_123_31 : g_Pg 123 31 = ga_call 83 3 34 := (congrFun pg_123 31).trans rfl
theorem q_123_31 {L : List Value} {a0 : Int32} {a1 : Int32} {a2 : Int32} {Z : gZ} {I : gI} {J : gJ} : g_at 123 31 L [.int a0, .int a1, .int a2] Z I J = (g_at 83 0 [.int a2, .int a1, .int a0] [] Z I J).bind (fun r => g_at 123 34 L (r.1.toList ++ []) r.2.1 r.2.2.1 r.2.2.2) := gq_call e_123_31 rfl rfl rfl rfl rfl
theorem e_123_34 : g_Pg 123 34 = ga_if (fun x => decide (¬ x = 0)) 40 37 := (congrFun pg_123 34).trans rfl
theorem q_123_34 {L : List Value} {x : Int32} {S : List Value} {Z : gZ} {I : gI} {J : gJ} : g_at 123 34 L (.int x :: S) Z I J = if ¬ x = 0 then g_at 123 40 L S Z I J else g_at 123 37 L S Z I J := gq_if e_123_34 rfl
theorem e_123_37 : g_Pg 123 37 = ga_push (.int (-3)) 39 := (congrFun pg_123 37).trans rfl
theorem q_123_37 {L : List Value} {S : List Value} {Z : gZ} {I : gI} {J : gJ} : g_at 123 37 L S Z I J = g_at 123 39 L (.int (-3) :: S) Z I J := gq_push e_123_37
theorem e_123_39 : g_Pg 123 39 = ga_iret := (congrFun pg_123 39).trans rfl
theorem q_123_39 {L : List Value} {x : Int32} {Z : gZ} {I : gI} {J : gJ} : g_at 123 39 L [.int x] Z I J = some (some (.int x), Z, I, J) := gq_iret e_123_39
theorem e_123_40 : g_Pg 123 40 = ga_aload 0 41 := (congrFun pg_123 40).trans rfl
theorem q_123_40 {l1 l2 l3 l4 l5 l6 l7 l8 l9 l10 : Value} {x : Nat} {S : List Value} {Z : gZ} {I : gI} {J : gJ} : g_at 123 40 [.ref x, l1, l2, l3, l4, l5, l6, l7, l8, l9, l10] S Z I J = g_at 123 41 [.ref x, l1, l2, l3, l4, l5, l6, l7, l8, l9, l10] (.ref x :: S) Z I J := gq_aload e_123_40 rfl
theorem e_123_41 : g_Pg 123 41 = ga_iload 1 42 := (congrFun pg_123 41).trans rfl
theorem q_123_41 {l0 l2 l3 l4 l5 l6 l7 l8 l9 l10 : Value} {x : Int32} {S : List Value} {Z : gZ} {I : gI} {J : gJ} : g_at 123 41 [l0, .int x, l2, l3, l4, l5, l6, l7, l8, l9, l10] S Z I J = g_at 123 42 [l0, .int x, l2, l3, l4, l5, l6, l7, l8, l9, l10] (.int x :: S) Z I J := gq_iload e_123_41 rfl
theorem e_123_42 : g_Pg 123 42 = ga_iload 2 43 := (congrFun pg_123 42).trans rfl
theorem q_123_42 {l0 l1 l3 l4 l5 l6 l7 l8 l9 l10 : Value} {x : Int32} {S : List Value} {Z : gZ} {I : gI} {J : gJ} : g_at 123 42 [l0, l1, .int x, l3, l4, l5, l6, l7, l8, l9, l10] S Z I J = g_at 123 43 [l0, l1, .int x, l3, l4, l5, l6, l7, l8, l9, l10] (.int x :: S) Z I J := gq_iload e_123_42 rfl
theorem e_123_43 : g_Pg 123 43 = ga_iload 3 44 := (congrFun pg_123 43).trans rfl
theorem q_123_43 {l0 l1 l2 l4 l5 l6 l7 l8 l9 l10 : Value} {x : Int32} {S : List Value} {Z : gZ} {I : gI} {J : gJ} : g_at 123 43 [l0, l1, l2, .int x, l4, l5, l6, l7, l8, l9, l10] S Z I J = g_at 123 44 [l0, l1, l2, .int x, l4, l5, l6, l7, l8, l9, l10] (.int x :: S) Z I J := gq_iload e_123_43 rfl
theorem e_123_44 : g_Pg 123 44 = ga_callV 7 120 3 47 := (congrFun pg_123 44).trans rfl
theorem q_123_44 {L : List Value} {a0 : Int32} {a1 : Int32} {a2 : Int32} {a3 : Nat} {Z : gZ} {I : gI} {J : gJ} (h : (gKd Z a3).1 = 7) : g_at 123 44 L [.int a0, .int a1, .int a2, .ref a3] Z I J = (g_at 120 0 [.ref a3, .int a2, .int a1, .int a0, .null, .null] [] Z I J).bind (fun r => g_at 123 47 L (r.1.toList ++ []) r.2.1 r.2.2.1 r.2.2.2) := gq_callV e_123_44 rfl rfl h rfl rfl rfl rfl rfl
theorem e_123_47 : g_Pg 123 47 = ga_istore 5 49 := (congrFun pg_123 47).trans rfl
theorem q_123_47 {l0 l1 l2 l3 l4 l5 l6 l7 l8 l9 l10 : Value} {x : Int32} {S : List Value} {Z : gZ} {I : gI} {J : gJ} (h : gN1 l4 = true) : g_at 123 47 [l0, l1, l2, l3, l4, l5, l6, l7, l8, l9, l10] (.int x :: S) Z I J = g_at 123 49 [l0, l1, l2, l3, l4, .int x, l6, l7, l8, l9, l10] S Z I J := gq_istore e_123_47 h rfl rfl
theorem e_123_49 : g_Pg 123 49 = ga_push (.int (-1)) 50 := (congrFun pg_123 49).trans rfl
theorem q_123_49 {L : List Value} {S : List Value} {Z : gZ} {I : gI} {J : gJ} : g_at 123 49 L S Z I J = g_at 123 50 L (.int (-1) :: S) Z I J := gq_push e_123_49
theorem e_123_50 : g_Pg 123 50 = ga_istore 6 52 := (congrFun pg_123 50).trans rfl
theorem q_123_50 {l0 l1 l2 l3 l4 l5 l6 l7 l8 l9 l10 : Value} {x : Int32} {S : List Value} {Z : gZ} {I : gI} {J : gJ} (h : gN1 l5 = true) : g_at 123 50 [l0, l1, l2, l3, l4, l5, l6, l7, l8, l9, l10] (.int x :: S) Z I J = g_at 123 52 [l0, l1, l2, l3, l4, l5, .int x, l7, l8, l9, l10] S Z I J := gq_istore e_123_50 h rfl rfl
theorem e_123_52 : g_Pg 123 52 = ga_push (.int (-1)) 53 := (congrFun pg_123 52).trans rfl
theorem q_123_52 {L : List Value} {S : List Value} {Z : gZ} {I : gI} {J : gJ} : g_at 123 52 L S Z I J = g_at 123 53 L (.int (-1) :: S) Z I J := gq_push e_123_52
theorem e_123_53 : g_Pg 123 53 = ga_istore 7 55 := (congrFun pg_123 53).trans rfl
theorem q_123_53 {l0 l1 l2 l3 l4 l5 l6 l7 l8 l9 l10 : Value} {x : Int32} {S : List Value} {Z : gZ} {I : gI} {J : gJ} (h : gN1 l6 = true) : g_at 123 53 [l0, l1, l2, l3, l4, l5, l6, l7, l8, l9, l10] (.int x :: S) Z I J = g_at 123 55 [l0, l1, l2, l3, l4, l5, l6, .int x, l8, l9, l10] S Z I J := gq_istore e_123_53 h rfl rfl
theorem e_123_55 : g_Pg 123 55 = ga_push (.int 0) 56 := (congrFun pg_123 55).trans rfl
theorem q_123_55 {L : List Value} {S : List Value} {Z : gZ} {I : gI} {J : gJ} : g_at 123 55 L S Z I J = g_at 123 56 L (.int 0 :: S) Z I J := gq_push e_123_55
theorem e_123_56 : g_Pg 123 56 = ga_istore 8 58 := (congrFun pg_123 56).trans rfl
theorem q_123_56 {l0 l1 l2 l3 l4 l5 l6 l7 l8 l9 l10 : Value} {x : Int32} {S : List Value} {Z : gZ} {I : gI} {J : gJ} (h : gN1 l7 = true) : g_at 123 56 [l0, l1, l2, l3, l4, l5, l6, l7, l8, l9, l10] (.int x :: S) Z I J = g_at 123 58 [l0, l1, l2, l3, l4, l5, l6, l7, .int x, l9, l10] S Z I J := gq_istore e_123_56 h rfl rfl
theorem e_123_58 : g_Pg 123 58 = ga_iload 8 60 := (congrFun pg_123 58).trans rfl
theorem q_123_58 {l0 l1 l2 l3 l4 l5 l6 l7 l9 l10 : Value} {x : Int32} {S : List Value} {Z : gZ} {I : gI} {J : gJ} : g_at 123 58 [l0, l1, l2, l3, l4, l5, l6, l7, .int x, l9, l10] S Z I J = g_at 123 60 [l0, l1, l2, l3, l4, l5, l6, l7, .int x, l9, l10] (.int x :: S) Z I J := gq_iload e_123_58 rfl
theorem e_123_60 : g_Pg 123 60 = ga_aload 0 61 := (congrFun pg_123 60).trans rfl
theorem q_123_60 {l1 l2 l3 l4 l5 l6 l7 l8 l9 l10 : Value} {x : Nat} {S : List Value} {Z : gZ} {I : gI} {J : gJ} : g_at 123 60 [.ref x, l1, l2, l3, l4, l5, l6, l7, l8, l9, l10] S Z I J = g_at 123 61 [.ref x, l1, l2, l3, l4, l5, l6, l7, l8, l9, l10] (.ref x :: S) Z I J := gq_aload e_123_60 rfl
theorem e_123_61 : g_Pg 123 61 = ga_getI 7 0 64 := (congrFun pg_123 61).trans rfl
theorem q_123_61 {L : List Value} {a : Nat} {S : List Value} {Z : gZ} {I : gI} {J : gJ} (h : (gKd Z a).1 = 7) : g_at 123 61 L (.ref a :: S) Z I J = g_at 123 64 L (.int (I a 0) :: S) Z I J := gq_getI e_123_61 h
theorem e_123_64 : g_Pg 123 64 = ga_cmp (fun x y => decide (y ≤ x)) 150 67 := (congrFun pg_123 64).trans rfl
theorem q_123_64 {L : List Value} {x y : Int32} {S : List Value} {Z : gZ} {I : gI} {J : gJ} : g_at 123 64 L (.int y :: .int x :: S) Z I J = if y ≤ x then g_at 123 150 L S Z I J else g_at 123 67 L S Z I J := gq_cmp e_123_64 rfl
theorem e_123_67 : g_Pg 123 67 = ga_iload 8 69 := (congrFun pg_123 67).trans rfl
theorem q_123_67 {l0 l1 l2 l3 l4 l5 l6 l7 l9 l10 : Value} {x : Int32} {S : List Value} {Z : gZ} {I : gI} {J : gJ} : g_at 123 67 [l0, l1, l2, l3, l4, l5, l6, l7, .int x, l9, l10] S Z I J = g_at 123 69 [l0, l1, l2, l3, l4, l5, l6, l7, .int x, l9, l10] (.int x :: S) Z I J := gq_iload e_123_67 rfl
theorem e_123_69 : g_Pg 123 69 = ga_push (.int 1) 70 := (congrFun pg_123 69).trans rfl
theorem q_123_69 {L : List Value} {S : List Value} {Z : gZ} {I : gI} {J : gJ} : g_at 123 69 L S Z I J = g_at 123 70 L (.int 1 :: S) Z I J := gq_push e_123_69
theorem e_123_70 : g_Pg 123 70 = ga_bin (fun x y => x + y) 71 := (congrFun pg_123 70).trans rfl
theorem q_123_70 {L : List Value} {x y : Int32} {S : List Value} {Z : gZ} {I : gI} {J : gJ} : g_at 123 70 L (.int y :: .int x :: S) Z I J = g_at 123 71 L (.int (x + y) :: S) Z I J := gq_bin e_123_70
theorem e_123_71 : g_Pg 123 71 = ga_istore 9 73 := (congrFun pg_123 71).trans rfl
theorem q_123_71 {l0 l1 l2 l3 l4 l5 l6 l7 l8 l9 l10 : Value} {x : Int32} {S : List Value} {Z : gZ} {I : gI} {J : gJ} (h : gN1 l8 = true) : g_at 123 71 [l0, l1, l2, l3, l4, l5, l6, l7, l8, l9, l10] (.int x :: S) Z I J = g_at 123 73 [l0, l1, l2, l3, l4, l5, l6, l7, l8, .int x, l10] S Z I J := gq_istore e_123_71 h rfl rfl
theorem e_123_73 : g_Pg 123 73 = ga_iload 9 75 := (congrFun pg_123 73).trans rfl
theorem q_123_73 {l0 l1 l2 l3 l4 l5 l6 l7 l8 l10 : Value} {x : Int32} {S : List Value} {Z : gZ} {I : gI} {J : gJ} : g_at 123 73 [l0, l1, l2, l3, l4, l5, l6, l7, l8, .int x, l10] S Z I J = g_at 123 75 [l0, l1, l2, l3, l4, l5, l6, l7, l8, .int x, l10] (.int x :: S) Z I J := gq_iload e_123_73 rfl
theorem e_123_75 : g_Pg 123 75 = ga_aload 0 76 := (congrFun pg_123 75).trans rfl
theorem q_123_75 {l1 l2 l3 l4 l5 l6 l7 l8 l9 l10 : Value} {x : Nat} {S : List Value} {Z : gZ} {I : gI} {J : gJ} : g_at 123 75 [.ref x, l1, l2, l3, l4, l5, l6, l7, l8, l9, l10] S Z I J = g_at 123 76 [.ref x, l1, l2, l3, l4, l5, l6, l7, l8, l9, l10] (.ref x :: S) Z I J := gq_aload e_123_75 rfl
theorem e_123_76 : g_Pg 123 76 = ga_getI 7 0 79 := (congrFun pg_123 76).trans rfl
theorem q_123_76 {L : List Value} {a : Nat} {S : List Value} {Z : gZ} {I : gI} {J : gJ} (h : (gKd Z a).1 = 7) : g_at 123 76 L (.ref a :: S) Z I J = g_at 123 79 L (.int (I a 0) :: S) Z I J := gq_getI e_123_76 h
theorem e_123_79 : g_Pg 123 79 = ga_cmp (fun x y => decide (y ≤ x)) 144 82 := (congrFun pg_123 79).trans rfl
theorem q_123_79 {L : List Value} {x y : Int32} {S : List Value} {Z : gZ} {I : gI} {J : gJ} : g_at 123 79 L (.int y :: .int x :: S) Z I J = if y ≤ x then g_at 123 144 L S Z I J else g_at 123 82 L S Z I J := gq_cmp e_123_79 rfl
theorem e_123_82 : g_Pg 123 82 = ga_aload 0 83 := (congrFun pg_123 82).trans rfl
theorem q_123_82 {l1 l2 l3 l4 l5 l6 l7 l8 l9 l10 : Value} {x : Nat} {S : List Value} {Z : gZ} {I : gI} {J : gJ} : g_at 123 82 [.ref x, l1, l2, l3, l4, l5, l6, l7, l8, l9, l10] S Z I J = g_at 123 83 [.ref x, l1, l2, l3, l4, l5, l6, l7, l8, l9, l10] (.ref x :: S) Z I J := gq_aload e_123_82 rfl
theorem e_123_83 : g_Pg 123 83 = ga_iload 8 85 := (congrFun pg_123 83).trans rfl
theorem q_123_83 {l0 l1 l2 l3 l4 l5 l6 l7 l9 l10 : Value} {x : Int32} {S : List Value} {Z : gZ} {I : gI} {J : gJ} : g_at 123 83 [l0, l1, l2, l3, l4, l5, l6, l7, .int x, l9, l10] S Z I J = g_at 123 85 [l0, l1, l2, l3, l4, l5, l6, l7, .int x, l9, l10] (.int x :: S) Z I J := gq_iload e_123_83 rfl
theorem e_123_85 : g_Pg 123 85 = ga_iload 9 87 := (congrFun pg_123 85).trans rfl
theorem q_123_85 {l0 l1 l2 l3 l4 l5 l6 l7 l8 l10 : Value} {x : Int32} {S : List Value} {Z : gZ} {I : gI} {J : gJ} : g_at 123 85 [l0, l1, l2, l3, l4, l5, l6, l7, l8, .int x, l10] S Z I J = g_at 123 87 [l0, l1, l2, l3, l4, l5, l6, l7, l8, .int x, l10] (.int x :: S) Z I J := gq_iload e_123_85 rfl
theorem e_123_87 : g_Pg 123 87 = ga_callV 7 122 2 90 := (congrFun pg_123 87).trans rfl
theorem q_123_87 {L : List Value} {a0 : Int32} {a1 : Int32} {a2 : Nat} {Z : gZ} {I : gI} {J : gJ} (h : (gKd Z a2).1 = 7) : g_at 123 87 L [.int a0, .int a1, .ref a2] Z I J = (g_at 122 0 [.ref a2, .int a1, .int a0, .null, .null] [] Z I J).bind (fun r => g_at 123 90 L (r.1.toList ++ []) r.2.1 r.2.2.1 r.2.2.2) := gq_callV e_123_87 rfl rfl h rfl rfl rfl rfl rfl
theorem e_123_90 : g_Pg 123 90 = ga_aload 0 91 := (congrFun pg_123 90).trans rfl
theorem q_123_90 {l1 l2 l3 l4 l5 l6 l7 l8 l9 l10 : Value} {x : Nat} {S : List Value} {Z : gZ} {I : gI} {J : gJ} : g_at 123 90 [.ref x, l1, l2, l3, l4, l5, l6, l7, l8, l9, l10] S Z I J = g_at 123 91 [.ref x, l1, l2, l3, l4, l5, l6, l7, l8, l9, l10] (.ref x :: S) Z I J := gq_aload e_123_90 rfl
theorem e_123_91 : g_Pg 123 91 = ga_iload 1 92 := (congrFun pg_123 91).trans rfl
theorem q_123_91 {l0 l2 l3 l4 l5 l6 l7 l8 l9 l10 : Value} {x : Int32} {S : List Value} {Z : gZ} {I : gI} {J : gJ} : g_at 123 91 [l0, .int x, l2, l3, l4, l5, l6, l7, l8, l9, l10] S Z I J = g_at 123 92 [l0, .int x, l2, l3, l4, l5, l6, l7, l8, l9, l10] (.int x :: S) Z I J := gq_iload e_123_91 rfl
theorem e_123_92 : g_Pg 123 92 = ga_iload 2 93 := (congrFun pg_123 92).trans rfl
theorem q_123_92 {l0 l1 l3 l4 l5 l6 l7 l8 l9 l10 : Value} {x : Int32} {S : List Value} {Z : gZ} {I : gI} {J : gJ} : g_at 123 92 [l0, l1, .int x, l3, l4, l5, l6, l7, l8, l9, l10] S Z I J = g_at 123 93 [l0, l1, .int x, l3, l4, l5, l6, l7, l8, l9, l10] (.int x :: S) Z I J := gq_iload e_123_92 rfl
theorem e_123_93 : g_Pg 123 93 = ga_iload 3 94 := (congrFun pg_123 93).trans rfl
theorem q_123_93 {l0 l1 l2 l4 l5 l6 l7 l8 l9 l10 : Value} {x : Int32} {S : List Value} {Z : gZ} {I : gI} {J : gJ} : g_at 123 93 [l0, l1, l2, .int x, l4, l5, l6, l7, l8, l9, l10] S Z I J = g_at 123 94 [l0, l1, l2, .int x, l4, l5, l6, l7, l8, l9, l10] (.int x :: S) Z I J := gq_iload e_123_93 rfl
theorem e_123_94 : g_Pg 123 94 = ga_callV 7 120 3 97 := (congrFun pg_123 94).trans rfl
theorem q_123_94 {L : List Value} {a0 : Int32} {a1 : Int32} {a2 : Int32} {a3 : Nat} {Z : gZ} {I : gI} {J : gJ} (h : (gKd Z a3).1 = 7) : g_at 123 94 L [.int a0, .int a1, .int a2, .ref a3] Z I J = (g_at 120 0 [.ref a3, .int a2, .int a1, .int a0, .null, .null] [] Z I J).bind (fun r => g_at 123 97 L (r.1.toList ++ []) r.2.1 r.2.2.1 r.2.2.2) := gq_callV e_123_94 rfl rfl h rfl rfl rfl rfl rfl
theorem e_123_97 : g_Pg 123 97 = ga_istore 10 99 := (congrFun pg_123 97).trans rfl
theorem q_123_97 {l0 l1 l2 l3 l4 l5 l6 l7 l8 l9 l10 : Value} {x : Int32} {S : List Value} {Z : gZ} {I : gI} {J : gJ} (h : gN1 l9 = true) : g_at 123 97 [l0, l1, l2, l3, l4, l5, l6, l7, l8, l9, l10] (.int x :: S) Z I J = g_at 123 99 [l0, l1, l2, l3, l4, l5, l6, l7, l8, l9, .int x] S Z I J := gq_istore e_123_97 h rfl rfl
theorem e_123_99 : g_Pg 123 99 = ga_aload 0 100 := (congrFun pg_123 99).trans rfl
theorem q_123_99 {l1 l2 l3 l4 l5 l6 l7 l8 l9 l10 : Value} {x : Nat} {S : List Value} {Z : gZ} {I : gI} {J : gJ} : g_at 123 99 [.ref x, l1, l2, l3, l4, l5, l6, l7, l8, l9, l10] S Z I J = g_at 123 100 [.ref x, l1, l2, l3, l4, l5, l6, l7, l8, l9, l10] (.ref x :: S) Z I J := gq_aload e_123_99 rfl
theorem e_123_100 : g_Pg 123 100 = ga_iload 8 102 := (congrFun pg_123 100).trans rfl
theorem q_123_100 {l0 l1 l2 l3 l4 l5 l6 l7 l9 l10 : Value} {x : Int32} {S : List Value} {Z : gZ} {I : gI} {J : gJ} : g_at 123 100 [l0, l1, l2, l3, l4, l5, l6, l7, .int x, l9, l10] S Z I J = g_at 123 102 [l0, l1, l2, l3, l4, l5, l6, l7, .int x, l9, l10] (.int x :: S) Z I J := gq_iload e_123_100 rfl
theorem e_123_102 : g_Pg 123 102 = ga_iload 9 104 := (congrFun pg_123 102).trans rfl
theorem q_123_102 {l0 l1 l2 l3 l4 l5 l6 l7 l8 l10 : Value} {x : Int32} {S : List Value} {Z : gZ} {I : gI} {J : gJ} : g_at 123 102 [l0, l1, l2, l3, l4, l5, l6, l7, l8, .int x, l10] S Z I J = g_at 123 104 [l0, l1, l2, l3, l4, l5, l6, l7, l8, .int x, l10] (.int x :: S) Z I J := gq_iload e_123_102 rfl
theorem e_123_104 : g_Pg 123 104 = ga_callV 7 122 2 107 := (congrFun pg_123 104).trans rfl
theorem q_123_104 {L : List Value} {a0 : Int32} {a1 : Int32} {a2 : Nat} {Z : gZ} {I : gI} {J : gJ} (h : (gKd Z a2).1 = 7) : g_at 123 104 L [.int a0, .int a1, .ref a2] Z I J = (g_at 122 0 [.ref a2, .int a1, .int a0, .null, .null] [] Z I J).bind (fun r => g_at 123 107 L (r.1.toList ++ []) r.2.1 r.2.2.1 r.2.2.2) := gq_callV e_123_104 rfl rfl h rfl rfl rfl rfl rfl
theorem e_123_107 : g_Pg 123 107 = ga_iload 10 109 := (congrFun pg_123 107).trans rfl
theorem q_123_107 {l0 l1 l2 l3 l4 l5 l6 l7 l8 l9 : Value} {x : Int32} {S : List Value} {Z : gZ} {I : gI} {J : gJ} : g_at 123 107 [l0, l1, l2, l3, l4, l5, l6, l7, l8, l9, .int x] S Z I J = g_at 123 109 [l0, l1, l2, l3, l4, l5, l6, l7, l8, l9, .int x] (.int x :: S) Z I J := gq_iload e_123_107 rfl
theorem e_123_109 : g_Pg 123 109 = ga_push (.int (-1)) 110 := (congrFun pg_123 109).trans rfl
theorem q_123_109 {L : List Value} {S : List Value} {Z : gZ} {I : gI} {J : gJ} : g_at 123 109 L S Z I J = g_at 123 110 L (.int (-1) :: S) Z I J := gq_push e_123_109
theorem e_123_110 : g_Pg 123 110 = ga_cmp (fun x y => decide (x = y)) 138 113 := (congrFun pg_123 110).trans rfl
theorem q_123_110 {L : List Value} {x y : Int32} {S : List Value} {Z : gZ} {I : gI} {J : gJ} : g_at 123 110 L (.int y :: .int x :: S) Z I J = if x = y then g_at 123 138 L S Z I J else g_at 123 113 L S Z I J := gq_cmp e_123_110 rfl
theorem e_123_113 : g_Pg 123 113 = ga_iload 5 115 := (congrFun pg_123 113).trans rfl
theorem q_123_113 {l0 l1 l2 l3 l4 l6 l7 l8 l9 l10 : Value} {x : Int32} {S : List Value} {Z : gZ} {I : gI} {J : gJ} : g_at 123 113 [l0, l1, l2, l3, l4, .int x, l6, l7, l8, l9, l10] S Z I J = g_at 123 115 [l0, l1, l2, l3, l4, .int x, l6, l7, l8, l9, l10] (.int x :: S) Z I J := gq_iload e_123_113 rfl
theorem e_123_115 : g_Pg 123 115 = ga_push (.int (-1)) 116 := (congrFun pg_123 115).trans rfl
theorem q_123_115 {L : List Value} {S : List Value} {Z : gZ} {I : gI} {J : gJ} : g_at 123 115 L S Z I J = g_at 123 116 L (.int (-1) :: S) Z I J := gq_push e_123_115
theorem e_123_116 : g_Pg 123 116 = ga_cmp (fun x y => decide (x = y)) 126 119 := (congrFun pg_123 116).trans rfl
theorem q_123_116 {L : List Value} {x y : Int32} {S : List Value} {Z : gZ} {I : gI} {J : gJ} : g_at 123 116 L (.int y :: .int x :: S) Z I J = if x = y then g_at 123 126 L S Z I J else g_at 123 119 L S Z I J := gq_cmp e_123_116 rfl
theorem e_123_119 : g_Pg 123 119 = ga_iload 10 121 := (congrFun pg_123 119).trans rfl
theorem q_123_119 {l0 l1 l2 l3 l4 l5 l6 l7 l8 l9 : Value} {x : Int32} {S : List Value} {Z : gZ} {I : gI} {J : gJ} : g_at 123 119 [l0, l1, l2, l3, l4, l5, l6, l7, l8, l9, .int x] S Z I J = g_at 123 121 [l0, l1, l2, l3, l4, l5, l6, l7, l8, l9, .int x] (.int x :: S) Z I J := gq_iload e_123_119 rfl
theorem e_123_121 : g_Pg 123 121 = ga_iload 5 123 := (congrFun pg_123 121).trans rfl
theorem q_123_121 {l0 l1 l2 l3 l4 l6 l7 l8 l9 l10 : Value} {x : Int32} {S : List Value} {Z : gZ} {I : gI} {J : gJ} : g_at 123 121 [l0, l1, l2, l3, l4, .int x, l6, l7, l8, l9, l10] S Z I J = g_at 123 123 [l0, l1, l2, l3, l4, .int x, l6, l7, l8, l9, l10] (.int x :: S) Z I J := gq_iload e_123_121 rfl
theorem e_123_123 : g_Pg 123 123 = ga_cmp (fun x y => decide (y ≤ x)) 138 126 := (congrFun pg_123 123).trans rfl
theorem q_123_123 {L : List Value} {x y : Int32} {S : List Value} {Z : gZ} {I : gI} {J : gJ} : g_at 123 123 L (.int y :: .int x :: S) Z I J = if y ≤ x then g_at 123 138 L S Z I J else g_at 123 126 L S Z I J := gq_cmp e_123_123 rfl
theorem e_123_126 : g_Pg 123 126 = ga_iload 10 128 := (congrFun pg_123 126).trans rfl
theorem q_123_126 {l0 l1 l2 l3 l4 l5 l6 l7 l8 l9 : Value} {x : Int32} {S : List Value} {Z : gZ} {I : gI} {J : gJ} : g_at 123 126 [l0, l1, l2, l3, l4, l5, l6, l7, l8, l9, .int x] S Z I J = g_at 123 128 [l0, l1, l2, l3, l4, l5, l6, l7, l8, l9, .int x] (.int x :: S) Z I J := gq_iload e_123_126 rfl
theorem e_123_128 : g_Pg 123 128 = ga_istore 5 130 := (congrFun pg_123 128).trans rfl
theorem q_123_128 {l0 l1 l2 l3 l4 l5 l6 l7 l8 l9 l10 : Value} {x : Int32} {S : List Value} {Z : gZ} {I : gI} {J : gJ} (h : gN1 l4 = true) : g_at 123 128 [l0, l1, l2, l3, l4, l5, l6, l7, l8, l9, l10] (.int x :: S) Z I J = g_at 123 130 [l0, l1, l2, l3, l4, .int x, l6, l7, l8, l9, l10] S Z I J := gq_istore e_123_128 h rfl rfl
theorem e_123_130 : g_Pg 123 130 = ga_iload 8 132 := (congrFun pg_123 130).trans rfl
theorem q_123_130 {l0 l1 l2 l3 l4 l5 l6 l7 l9 l10 : Value} {x : Int32} {S : List Value} {Z : gZ} {I : gI} {J : gJ} : g_at 123 130 [l0, l1, l2, l3, l4, l5, l6, l7, .int x, l9, l10] S Z I J = g_at 123 132 [l0, l1, l2, l3, l4, l5, l6, l7, .int x, l9, l10] (.int x :: S) Z I J := gq_iload e_123_130 rfl
theorem e_123_132 : g_Pg 123 132 = ga_istore 6 134 := (congrFun pg_123 132).trans rfl
theorem q_123_132 {l0 l1 l2 l3 l4 l5 l6 l7 l8 l9 l10 : Value} {x : Int32} {S : List Value} {Z : gZ} {I : gI} {J : gJ} (h : gN1 l5 = true) : g_at 123 132 [l0, l1, l2, l3, l4, l5, l6, l7, l8, l9, l10] (.int x :: S) Z I J = g_at 123 134 [l0, l1, l2, l3, l4, l5, .int x, l7, l8, l9, l10] S Z I J := gq_istore e_123_132 h rfl rfl
theorem e_123_134 : g_Pg 123 134 = ga_iload 9 136 := (congrFun pg_123 134).trans rfl
theorem q_123_134 {l0 l1 l2 l3 l4 l5 l6 l7 l8 l10 : Value} {x : Int32} {S : List Value} {Z : gZ} {I : gI} {J : gJ} : g_at 123 134 [l0, l1, l2, l3, l4, l5, l6, l7, l8, .int x, l10] S Z I J = g_at 123 136 [l0, l1, l2, l3, l4, l5, l6, l7, l8, .int x, l10] (.int x :: S) Z I J := gq_iload e_123_134 rfl
theorem e_123_136 : g_Pg 123 136 = ga_istore 7 138 := (congrFun pg_123 136).trans rfl
theorem q_123_136 {l0 l1 l2 l3 l4 l5 l6 l7 l8 l9 l10 : Value} {x : Int32} {S : List Value} {Z : gZ} {I : gI} {J : gJ} (h : gN1 l6 = true) : g_at 123 136 [l0, l1, l2, l3, l4, l5, l6, l7, l8, l9, l10] (.int x :: S) Z I J = g_at 123 138 [l0, l1, l2, l3, l4, l5, l6, .int x, l8, l9, l10] S Z I J := gq_istore e_123_136 h rfl rfl
theorem e_123_138 : g_Pg 123 138 = ga_iinc 9 1 141 := (congrFun pg_123 138).trans rfl
theorem q_123_138 {l0 l1 l2 l3 l4 l5 l6 l7 l8 l10 : Value} {x : Int32} {S : List Value} {Z : gZ} {I : gI} {J : gJ} (h : gN1 l8 = true) : g_at 123 138 [l0, l1, l2, l3, l4, l5, l6, l7, l8, .int x, l10] S Z I J = g_at 123 141 [l0, l1, l2, l3, l4, l5, l6, l7, l8, .int (x + 1), l10] S Z I J := gq_iinc e_123_138 rfl h rfl
theorem e_123_141 : g_Pg 123 141 = ga_goto 73 := (congrFun pg_123 141).trans rfl
theorem q_123_141 {L : List Value} {S : List Value} {Z : gZ} {I : gI} {J : gJ} : g_at 123 141 L S Z I J = g_at 123 73 L S Z I J := gq_goto e_123_141
theorem e_123_144 : g_Pg 123 144 = ga_iinc 8 1 147 := (congrFun pg_123 144).trans rfl
theorem q_123_144 {l0 l1 l2 l3 l4 l5 l6 l7 l9 l10 : Value} {x : Int32} {S : List Value} {Z : gZ} {I : gI} {J : gJ} (h : gN1 l7 = true) : g_at 123 144 [l0, l1, l2, l3, l4, l5, l6, l7, .int x, l9, l10] S Z I J = g_at 123 147 [l0, l1, l2, l3, l4, l5, l6, l7, .int (x + 1), l9, l10] S Z I J := gq_iinc e_123_144 rfl h rfl
theorem e_123_147 : g_Pg 123 147 = ga_goto 58 := (congrFun pg_123 147).trans rfl
theorem q_123_147 {L : List Value} {S : List Value} {Z : gZ} {I : gI} {J : gJ} : g_at 123 147 L S Z I J = g_at 123 58 L S Z I J := gq_goto e_123_147
theorem e_123_150 : g_Pg 123 150 = ga_iload 6 152 := (congrFun pg_123 150).trans rfl
theorem q_123_150 {l0 l1 l2 l3 l4 l5 l7 l8 l9 l10 : Value} {x : Int32} {S : List Value} {Z : gZ} {I : gI} {J : gJ} : g_at 123 150 [l0, l1, l2, l3, l4, l5, .int x, l7, l8, l9, l10] S Z I J = g_at 123 152 [l0, l1, l2, l3, l4, l5, .int x, l7, l8, l9, l10] (.int x :: S) Z I J := gq_iload e_123_150 rfl
theorem e_123_152 : g_Pg 123 152 = ga_push (.int (-1)) 153 := (congrFun pg_123 152).trans rfl
theorem q_123_152 {L : List Value} {S : List Value} {Z : gZ} {I : gI} {J : gJ} : g_at 123 152 L S Z I J = g_at 123 153 L (.int (-1) :: S) Z I J := gq_push e_123_152
theorem e_123_153 : g_Pg 123 153 = ga_cmp (fun x y => decide (¬ x = y)) 160 156 := (congrFun pg_123 153).trans rfl
theorem q_123_153 {L : List Value} {x y : Int32} {S : List Value} {Z : gZ} {I : gI} {J : gJ} : g_at 123 153 L (.int y :: .int x :: S) Z I J = if ¬ x = y then g_at 123 160 L S Z I J else g_at 123 156 L S Z I J := gq_cmp e_123_153 rfl
theorem e_123_156 : g_Pg 123 156 = ga_push (.int (-1)) 157 := (congrFun pg_123 156).trans rfl
theorem q_123_156 {L : List Value} {S : List Value} {Z : gZ} {I : gI} {J : gJ} : g_at 123 156 L S Z I J = g_at 123 157 L (.int (-1) :: S) Z I J := gq_push e_123_156
theorem e_123_157 : g_Pg 123 157 = ga_goto 183 := (congrFun pg_123 157).trans rfl
theorem q_123_157 {L : List Value} {S : List Value} {Z : gZ} {I : gI} {J : gJ} : g_at 123 157 L S Z I J = g_at 123 183 L S Z I J := gq_goto e_123_157
theorem e_123_160 : g_Pg 123 160 = ga_iload 4 162 := (congrFun pg_123 160).trans rfl
theorem q_123_160 {l0 l1 l2 l3 l5 l6 l7 l8 l9 l10 : Value} {x : Int32} {S : List Value} {Z : gZ} {I : gI} {J : gJ} : g_at 123 160 [l0, l1, l2, l3, .int x, l5, l6, l7, l8, l9, l10] S Z I J = g_at 123 162 [l0, l1, l2, l3, .int x, l5, l6, l7, l8, l9, l10] (.int x :: S) Z I J := gq_iload e_123_160 rfl
theorem e_123_162 : g_Pg 123 162 = ga_if (fun x => decide (¬ x = 0)) 170 165 := (congrFun pg_123 162).trans rfl
theorem q_123_162 {L : List Value} {x : Int32} {S : List Value} {Z : gZ} {I : gI} {J : gJ} : g_at 123 162 L (.int x :: S) Z I J = if ¬ x = 0 then g_at 123 170 L S Z I J else g_at 123 165 L S Z I J := gq_if e_123_162 rfl
theorem e_123_165 : g_Pg 123 165 = ga_iload 5 167 := (congrFun pg_123 165).trans rfl
theorem q_123_165 {l0 l1 l2 l3 l4 l6 l7 l8 l9 l10 : Value} {x : Int32} {S : List Value} {Z : gZ} {I : gI} {J : gJ} : g_at 123 165 [l0, l1, l2, l3, l4, .int x, l6, l7, l8, l9, l10] S Z I J = g_at 123 167 [l0, l1, l2, l3, l4, .int x, l6, l7, l8, l9, l10] (.int x :: S) Z I J := gq_iload e_123_165 rfl
theorem e_123_167 : g_Pg 123 167 = ga_goto 183 := (congrFun pg_123 167).trans rfl
theorem q_123_167 {L : List Value} {S : List Value} {Z : gZ} {I : gI} {J : gJ} : g_at 123 167 L S Z I J = g_at 123 183 L S Z I J := gq_goto e_123_167
theorem e_123_170 : g_Pg 123 170 = ga_iload 4 172 := (congrFun pg_123 170).trans rfl
theorem q_123_170 {l0 l1 l2 l3 l5 l6 l7 l8 l9 l10 : Value} {x : Int32} {S : List Value} {Z : gZ} {I : gI} {J : gJ} : g_at 123 170 [l0, l1, l2, l3, .int x, l5, l6, l7, l8, l9, l10] S Z I J = g_at 123 172 [l0, l1, l2, l3, .int x, l5, l6, l7, l8, l9, l10] (.int x :: S) Z I J := gq_iload e_123_170 rfl
theorem e_123_172 : g_Pg 123 172 = ga_push (.int 1) 173 := (congrFun pg_123 172).trans rfl
theorem q_123_172 {L : List Value} {S : List Value} {Z : gZ} {I : gI} {J : gJ} : g_at 123 172 L S Z I J = g_at 123 173 L (.int 1 :: S) Z I J := gq_push e_123_172
theorem e_123_173 : g_Pg 123 173 = ga_cmp (fun x y => decide (¬ x = y)) 181 176 := (congrFun pg_123 173).trans rfl
theorem q_123_173 {L : List Value} {x y : Int32} {S : List Value} {Z : gZ} {I : gI} {J : gJ} : g_at 123 173 L (.int y :: .int x :: S) Z I J = if ¬ x = y then g_at 123 181 L S Z I J else g_at 123 176 L S Z I J := gq_cmp e_123_173 rfl
theorem e_123_176 : g_Pg 123 176 = ga_iload 6 178 := (congrFun pg_123 176).trans rfl
theorem q_123_176 {l0 l1 l2 l3 l4 l5 l7 l8 l9 l10 : Value} {x : Int32} {S : List Value} {Z : gZ} {I : gI} {J : gJ} : g_at 123 176 [l0, l1, l2, l3, l4, l5, .int x, l7, l8, l9, l10] S Z I J = g_at 123 178 [l0, l1, l2, l3, l4, l5, .int x, l7, l8, l9, l10] (.int x :: S) Z I J := gq_iload e_123_176 rfl
theorem e_123_178 : g_Pg 123 178 = ga_goto 183 := (congrFun pg_123 178).trans rfl
theorem q_123_178 {L : List Value} {S : List Value} {Z : gZ} {I : gI} {J : gJ} : g_at 123 178 L S Z I J = g_at 123 183 L S Z I J := gq_goto e_123_178
theorem e_123_181 : g_Pg 123 181 = ga_iload 7 183 := (congrFun pg_123 181).trans rfl
theorem q_123_181 {l0 l1 l2 l3 l4 l5 l6 l8 l9 l10 : Value} {x : Int32} {S : List Value} {Z : gZ} {I : gI} {J : gJ} : g_at 123 181 [l0, l1, l2, l3, l4, l5, l6, .int x, l8, l9, l10] S Z I J = g_at 123 183 [l0, l1, l2, l3, l4, l5, l6, .int x, l8, l9, l10] (.int x :: S) Z I J := gq_iload e_123_181 rfl
theorem e_123_183 : g_Pg 123 183 = ga_iret := (congrFun pg_123 183).trans rfl
theorem q_123_183 {L : List Value} {x : Int32} {Z : gZ} {I : gI} {J : gJ} : g_at 123 183 L [.int x] Z I J = some (some (.int x), Z, I, J) := gq_iret e_123_183
theorem e_124_0 : g_Pg 124 0 = ga_push (.int 0) 1 := (congrFun pg_124 0).trans rfl
theorem q_124_0 {L : List Value} {S : List Value} {Z : gZ} {I : gI} {J : gJ} : g_at 124 0 L S Z I J = g_at 124 1 L (.int 0 :: S) Z I J := gq_push e_124_0
theorem e_124_1 : g_Pg 124 1 = ga_istore 1 2 := (congrFun pg_124 1).trans rfl
theorem q_124_1 {l0 l1 l2 : Value} {x : Int32} {S : List Value} {Z : gZ} {I : gI} {J : gJ} (h : gN1 l0 = true) : g_at 124 1 [l0, l1, l2] (.int x :: S) Z I J = g_at 124 2 [l0, .int x, l2] S Z I J := gq_istore e_124_1 h rfl rfl
theorem e_124_2 : g_Pg 124 2 = ga_push (.int 0) 3 := (congrFun pg_124 2).trans rfl
theorem q_124_2 {L : List Value} {S : List Value} {Z : gZ} {I : gI} {J : gJ} : g_at 124 2 L S Z I J = g_at 124 3 L (.int 0 :: S) Z I J := gq_push e_124_2
theorem e_124_3 : g_Pg 124 3 = ga_istore 2 4 := (congrFun pg_124 3).trans rfl
theorem q_124_3 {l0 l1 l2 : Value} {x : Int32} {S : List Value} {Z : gZ} {I : gI} {J : gJ} (h : gN1 l1 = true) : g_at 124 3 [l0, l1, l2] (.int x :: S) Z I J = g_at 124 4 [l0, l1, .int x] S Z I J := gq_istore e_124_3 h rfl rfl
theorem e_124_4 : g_Pg 124 4 = ga_iload 2 5 := (congrFun pg_124 4).trans rfl
theorem q_124_4 {l0 l1 : Value} {x : Int32} {S : List Value} {Z : gZ} {I : gI} {J : gJ} : g_at 124 4 [l0, l1, .int x] S Z I J = g_at 124 5 [l0, l1, .int x] (.int x :: S) Z I J := gq_iload e_124_4 rfl
theorem e_124_5 : g_Pg 124 5 = ga_push (.int 10) 7 := (congrFun pg_124 5).trans rfl
theorem q_124_5 {L : List Value} {S : List Value} {Z : gZ} {I : gI} {J : gJ} : g_at 124 5 L S Z I J = g_at 124 7 L (.int 10 :: S) Z I J := gq_push e_124_5
theorem e_124_7 : g_Pg 124 7 = ga_cmp (fun x y => decide (y ≤ x)) 24 10 := (congrFun pg_124 7).trans rfl
theorem q_124_7 {L : List Value} {x y : Int32} {S : List Value} {Z : gZ} {I : gI} {J : gJ} : g_at 124 7 L (.int y :: .int x :: S) Z I J = if y ≤ x then g_at 124 24 L S Z I J else g_at 124 10 L S Z I J := gq_cmp e_124_7 rfl
theorem e_124_10 : g_Pg 124 10 = ga_iload 1 11 := (congrFun pg_124 10).trans rfl
theorem q_124_10 {l0 l2 : Value} {x : Int32} {S : List Value} {Z : gZ} {I : gI} {J : gJ} : g_at 124 10 [l0, .int x, l2] S Z I J = g_at 124 11 [l0, .int x, l2] (.int x :: S) Z I J := gq_iload e_124_10 rfl
theorem e_124_11 : g_Pg 124 11 = ga_iload 0 12 := (congrFun pg_124 11).trans rfl
theorem q_124_11 {l1 l2 : Value} {x : Int32} {S : List Value} {Z : gZ} {I : gI} {J : gJ} : g_at 124 11 [.int x, l1, l2] S Z I J = g_at 124 12 [.int x, l1, l2] (.int x :: S) Z I J := gq_iload e_124_11 rfl
theorem e_124_12 : g_Pg 124 12 = ga_iload 2 13 := (congrFun pg_124 12).trans rfl
theorem q_124_12 {l0 l1 : Value} {x : Int32} {S : List Value} {Z : gZ} {I : gI} {J : gJ} : g_at 124 12 [l0, l1, .int x] S Z I J = g_at 124 13 [l0, l1, .int x] (.int x :: S) Z I J := gq_iload e_124_12 rfl
theorem e_124_13 : g_Pg 124 13 = ga_bin (fun x y => x >>> (y &&& 31)) 14 := (congrFun pg_124 13).trans rfl
theorem q_124_13 {L : List Value} {x y : Int32} {S : List Value} {Z : gZ} {I : gI} {J : gJ} : g_at 124 13 L (.int y :: .int x :: S) Z I J = g_at 124 14 L (.int (x >>> (y &&& 31)) :: S) Z I J := gq_bin e_124_13
theorem e_124_14 : g_Pg 124 14 = ga_push (.int 1) 15 := (congrFun pg_124 14).trans rfl
theorem q_124_14 {L : List Value} {S : List Value} {Z : gZ} {I : gI} {J : gJ} : g_at 124 14 L S Z I J = g_at 124 15 L (.int 1 :: S) Z I J := gq_push e_124_14
theorem e_124_15 : g_Pg 124 15 = ga_bin (fun x y => x &&& y) 16 := (congrFun pg_124 15).trans rfl
theorem q_124_15 {L : List Value} {x y : Int32} {S : List Value} {Z : gZ} {I : gI} {J : gJ} : g_at 124 15 L (.int y :: .int x :: S) Z I J = g_at 124 16 L (.int (x &&& y) :: S) Z I J := gq_bin e_124_15
theorem e_124_16 : g_Pg 124 16 = ga_bin (fun x y => x + y) 17 := (congrFun pg_124 16).trans rfl
theorem q_124_16 {L : List Value} {x y : Int32} {S : List Value} {Z : gZ} {I : gI} {J : gJ} : g_at 124 16 L (.int y :: .int x :: S) Z I J = g_at 124 17 L (.int (x + y) :: S) Z I J := gq_bin e_124_16
theorem e_124_17 : g_Pg 124 17 = ga_istore 1 18 := (congrFun pg_124 17).trans rfl
theorem q_124_17 {l0 l1 l2 : Value} {x : Int32} {S : List Value} {Z : gZ} {I : gI} {J : gJ} (h : gN1 l0 = true) : g_at 124 17 [l0, l1, l2] (.int x :: S) Z I J = g_at 124 18 [l0, .int x, l2] S Z I J := gq_istore e_124_17 h rfl rfl
theorem e_124_18 : g_Pg 124 18 = ga_iinc 2 1 21 := (congrFun pg_124 18).trans rfl
theorem q_124_18 {l0 l1 : Value} {x : Int32} {S : List Value} {Z : gZ} {I : gI} {J : gJ} (h : gN1 l1 = true) : g_at 124 18 [l0, l1, .int x] S Z I J = g_at 124 21 [l0, l1, .int (x + 1)] S Z I J := gq_iinc e_124_18 rfl h rfl
theorem e_124_21 : g_Pg 124 21 = ga_goto 4 := (congrFun pg_124 21).trans rfl
theorem q_124_21 {L : List Value} {S : List Value} {Z : gZ} {I : gI} {J : gJ} : g_at 124 21 L S Z I J = g_at 124 4 L S Z I J := gq_goto e_124_21
theorem e_124_24 : g_Pg 124 24 = ga_iload 1 25 := (congrFun pg_124 24).trans rfl
theorem q_124_24 {l0 l2 : Value} {x : Int32} {S : List Value} {Z : gZ} {I : gI} {J : gJ} : g_at 124 24 [l0, .int x, l2] S Z I J = g_at 124 25 [l0, .int x, l2] (.int x :: S) Z I J := gq_iload e_124_24 rfl
theorem e_124_25 : g_Pg 124 25 = ga_iret := (congrFun pg_124 25).trans rfl
theorem q_124_25 {L : List Value} {x : Int32} {Z : gZ} {I : gI} {J : gJ} : g_at 124 25 L [.int x] Z I J = some (some (.int x), Z, I, J) := gq_iret e_124_25
theorem e_125_0 : g_Pg 125 0 = ga_push (.int 0) 1 := (congrFun pg_125 0).trans rfl
theorem q_125_0 {L : List Value} {S : List Value} {Z : gZ} {I : gI} {J : gJ} : g_at 125 0 L S Z I J = g_at 125 1 L (.int 0 :: S) Z I J := gq_push e_125_0
theorem e_125_1 : g_Pg 125 1 = ga_istore 3 2 := (congrFun pg_125 1).trans rfl
theorem q_125_1 {l0 l1 l2 l3 l4 l5 : Value} {x : Int32} {S : List Value} {Z : gZ} {I : gI} {J : gJ} (h : gN1 l2 = true) : g_at 125 1 [l0, l1, l2, l3, l4, l5] (.int x :: S) Z I J = g_at 125 2 [l0, l1, l2, .int x, l4, l5] S Z I J := gq_istore e_125_1 h rfl rfl
theorem e_125_2 : g_Pg 125 2 = ga_push (.int 0) 3 := (congrFun pg_125 2).trans rfl
theorem q_125_2 {L : List Value} {S : List Value} {Z : gZ} {I : gI} {J : gJ} : g_at 125 2 L S Z I J = g_at 125 3 L (.int 0 :: S) Z I J := gq_push e_125_2
theorem e_125_3 : g_Pg 125 3 = ga_istore 4 5 := (congrFun pg_125 3).trans rfl
theorem q_125_3 {l0 l1 l2 l3 l4 l5 : Value} {x : Int32} {S : List Value} {Z : gZ} {I : gI} {J : gJ} (h : gN1 l3 = true) : g_at 125 3 [l0, l1, l2, l3, l4, l5] (.int x :: S) Z I J = g_at 125 5 [l0, l1, l2, l3, .int x, l5] S Z I J := gq_istore e_125_3 h rfl rfl
theorem e_125_5 : g_Pg 125 5 = ga_iload 4 7 := (congrFun pg_125 5).trans rfl
theorem q_125_5 {l0 l1 l2 l3 l5 : Value} {x : Int32} {S : List Value} {Z : gZ} {I : gI} {J : gJ} : g_at 125 5 [l0, l1, l2, l3, .int x, l5] S Z I J = g_at 125 7 [l0, l1, l2, l3, .int x, l5] (.int x :: S) Z I J := gq_iload e_125_5 rfl
theorem e_125_7 : g_Pg 125 7 = ga_aload 0 8 := (congrFun pg_125 7).trans rfl
theorem q_125_7 {l1 l2 l3 l4 l5 : Value} {x : Nat} {S : List Value} {Z : gZ} {I : gI} {J : gJ} : g_at 125 7 [.ref x, l1, l2, l3, l4, l5] S Z I J = g_at 125 8 [.ref x, l1, l2, l3, l4, l5] (.ref x :: S) Z I J := gq_aload e_125_7 rfl
theorem e_125_8 : g_Pg 125 8 = ga_getI 7 0 11 := (congrFun pg_125 8).trans rfl
theorem q_125_8 {L : List Value} {a : Nat} {S : List Value} {Z : gZ} {I : gI} {J : gJ} (h : (gKd Z a).1 = 7) : g_at 125 8 L (.ref a :: S) Z I J = g_at 125 11 L (.int (I a 0) :: S) Z I J := gq_getI e_125_8 h
theorem e_125_11 : g_Pg 125 11 = ga_cmp (fun x y => decide (y ≤ x)) 88 14 := (congrFun pg_125 11).trans rfl
theorem q_125_11 {L : List Value} {x y : Int32} {S : List Value} {Z : gZ} {I : gI} {J : gJ} : g_at 125 11 L (.int y :: .int x :: S) Z I J = if y ≤ x then g_at 125 88 L S Z I J else g_at 125 14 L S Z I J := gq_cmp e_125_11 rfl
theorem e_125_14 : g_Pg 125 14 = ga_aload 0 15 := (congrFun pg_125 14).trans rfl
theorem q_125_14 {l1 l2 l3 l4 l5 : Value} {x : Nat} {S : List Value} {Z : gZ} {I : gI} {J : gJ} : g_at 125 14 [.ref x, l1, l2, l3, l4, l5] S Z I J = g_at 125 15 [.ref x, l1, l2, l3, l4, l5] (.ref x :: S) Z I J := gq_aload e_125_14 rfl
theorem e_125_15 : g_Pg 125 15 = ga_getR 7 1 18 := (congrFun pg_125 15).trans rfl
theorem q_125_15 {L : List Value} {a : Nat} {S : List Value} {Z : gZ} {I : gI} {J : gJ} (h : (gKd Z a).1 = 7) (h1 : gRs Z a 1 = true) : g_at 125 15 L (.ref a :: S) Z I J = g_at 125 18 L (.ref (gRq Z a 1) :: S) Z I J := gq_getR e_125_15 h h1
theorem e_125_18 : g_Pg 125 18 = ga_iload 4 20 := (congrFun pg_125 18).trans rfl
theorem q_125_18 {l0 l1 l2 l3 l5 : Value} {x : Int32} {S : List Value} {Z : gZ} {I : gI} {J : gJ} : g_at 125 18 [l0, l1, l2, l3, .int x, l5] S Z I J = g_at 125 20 [l0, l1, l2, l3, .int x, l5] (.int x :: S) Z I J := gq_iload e_125_18 rfl
theorem e_125_20 : g_Pg 125 20 = ga_iald 21 := (congrFun pg_125 20).trans rfl
theorem q_125_20 {L : List Value} {a : Nat} {i : Int32} {S : List Value} {Z : gZ} {I : gI} {J : gJ} (h : gTg8 (gKd Z a).1 a = true) (h0 : 0 ≤ i) (h1 : i.toNatClampNeg < (gKd Z a).2) : g_at 125 20 L (.int i :: .ref a :: S) Z I J = g_at 125 21 L (.int (I a i.toNatClampNeg) :: S) Z I J := gq_iald e_125_20 h h0 h1
theorem e_125_21 : g_Pg 125 21 = ga_iload 2 22 := (congrFun pg_125 21).trans rfl
theorem q_125_21 {l0 l1 l3 l4 l5 : Value} {x : Int32} {S : List Value} {Z : gZ} {I : gI} {J : gJ} : g_at 125 21 [l0, l1, .int x, l3, l4, l5] S Z I J = g_at 125 22 [l0, l1, .int x, l3, l4, l5] (.int x :: S) Z I J := gq_iload e_125_21 rfl
theorem e_125_22 : g_Pg 125 22 = ga_cmp (fun x y => decide (¬ x = y)) 82 25 := (congrFun pg_125 22).trans rfl
theorem q_125_22 {L : List Value} {x y : Int32} {S : List Value} {Z : gZ} {I : gI} {J : gJ} : g_at 125 22 L (.int y :: .int x :: S) Z I J = if ¬ x = y then g_at 125 82 L S Z I J else g_at 125 25 L S Z I J := gq_cmp e_125_22 rfl
theorem e_125_25 : g_Pg 125 25 = ga_aload 0 26 := (congrFun pg_125 25).trans rfl
theorem q_125_25 {l1 l2 l3 l4 l5 : Value} {x : Nat} {S : List Value} {Z : gZ} {I : gI} {J : gJ} : g_at 125 25 [.ref x, l1, l2, l3, l4, l5] S Z I J = g_at 125 26 [.ref x, l1, l2, l3, l4, l5] (.ref x :: S) Z I J := gq_aload e_125_25 rfl
theorem e_125_26 : g_Pg 125 26 = ga_getR 7 1 29 := (congrFun pg_125 26).trans rfl
theorem q_125_26 {L : List Value} {a : Nat} {S : List Value} {Z : gZ} {I : gI} {J : gJ} (h : (gKd Z a).1 = 7) (h1 : gRs Z a 1 = true) : g_at 125 26 L (.ref a :: S) Z I J = g_at 125 29 L (.ref (gRq Z a 1) :: S) Z I J := gq_getR e_125_26 h h1
theorem e_125_29 : g_Pg 125 29 = ga_iload 2 30 := (congrFun pg_125 29).trans rfl
theorem q_125_29 {l0 l1 l3 l4 l5 : Value} {x : Int32} {S : List Value} {Z : gZ} {I : gI} {J : gJ} : g_at 125 29 [l0, l1, .int x, l3, l4, l5] S Z I J = g_at 125 30 [l0, l1, .int x, l3, l4, l5] (.int x :: S) Z I J := gq_iload e_125_29 rfl
theorem e_125_30 : g_Pg 125 30 = ga_iald 31 := (congrFun pg_125 30).trans rfl
theorem q_125_30 {L : List Value} {a : Nat} {i : Int32} {S : List Value} {Z : gZ} {I : gI} {J : gJ} (h : gTg8 (gKd Z a).1 a = true) (h0 : 0 ≤ i) (h1 : i.toNatClampNeg < (gKd Z a).2) : g_at 125 30 L (.int i :: .ref a :: S) Z I J = g_at 125 31 L (.int (I a i.toNatClampNeg) :: S) Z I J := gq_iald e_125_30 h h0 h1
theorem e_125_31 : g_Pg 125 31 = ga_push (.int (-1)) 32 := (congrFun pg_125 31).trans rfl
theorem q_125_31 {L : List Value} {S : List Value} {Z : gZ} {I : gI} {J : gJ} : g_at 125 31 L S Z I J = g_at 125 32 L (.int (-1) :: S) Z I J := gq_push e_125_31
theorem e_125_32 : g_Pg 125 32 = ga_cmp (fun x y => decide (x = y)) 82 35 := (congrFun pg_125 32).trans rfl
theorem q_125_32 {L : List Value} {x y : Int32} {S : List Value} {Z : gZ} {I : gI} {J : gJ} : g_at 125 32 L (.int y :: .int x :: S) Z I J = if x = y then g_at 125 82 L S Z I J else g_at 125 35 L S Z I J := gq_cmp e_125_32 rfl
theorem e_125_35 : g_Pg 125 35 = ga_aload 0 36 := (congrFun pg_125 35).trans rfl
theorem q_125_35 {l1 l2 l3 l4 l5 : Value} {x : Nat} {S : List Value} {Z : gZ} {I : gI} {J : gJ} : g_at 125 35 [.ref x, l1, l2, l3, l4, l5] S Z I J = g_at 125 36 [.ref x, l1, l2, l3, l4, l5] (.ref x :: S) Z I J := gq_aload e_125_35 rfl
theorem e_125_36 : g_Pg 125 36 = ga_getR 7 1 39 := (congrFun pg_125 36).trans rfl
theorem q_125_36 {L : List Value} {a : Nat} {S : List Value} {Z : gZ} {I : gI} {J : gJ} (h : (gKd Z a).1 = 7) (h1 : gRs Z a 1 = true) : g_at 125 36 L (.ref a :: S) Z I J = g_at 125 39 L (.ref (gRq Z a 1) :: S) Z I J := gq_getR e_125_36 h h1
theorem e_125_39 : g_Pg 125 39 = ga_iload 2 40 := (congrFun pg_125 39).trans rfl
theorem q_125_39 {l0 l1 l3 l4 l5 : Value} {x : Int32} {S : List Value} {Z : gZ} {I : gI} {J : gJ} : g_at 125 39 [l0, l1, .int x, l3, l4, l5] S Z I J = g_at 125 40 [l0, l1, .int x, l3, l4, l5] (.int x :: S) Z I J := gq_iload e_125_39 rfl
theorem e_125_40 : g_Pg 125 40 = ga_iald 41 := (congrFun pg_125 40).trans rfl
theorem q_125_40 {L : List Value} {a : Nat} {i : Int32} {S : List Value} {Z : gZ} {I : gI} {J : gJ} (h : gTg8 (gKd Z a).1 a = true) (h0 : 0 ≤ i) (h1 : i.toNatClampNeg < (gKd Z a).2) : g_at 125 40 L (.int i :: .ref a :: S) Z I J = g_at 125 41 L (.int (I a i.toNatClampNeg) :: S) Z I J := gq_iald e_125_40 h h0 h1
theorem e_125_41 : g_Pg 125 41 = ga_iload 4 43 := (congrFun pg_125 41).trans rfl
theorem q_125_41 {l0 l1 l2 l3 l5 : Value} {x : Int32} {S : List Value} {Z : gZ} {I : gI} {J : gJ} : g_at 125 41 [l0, l1, l2, l3, .int x, l5] S Z I J = g_at 125 43 [l0, l1, l2, l3, .int x, l5] (.int x :: S) Z I J := gq_iload e_125_41 rfl
theorem e_125_43 : g_Pg 125 43 = ga_cmp (fun x y => decide (x = y)) 82 46 := (congrFun pg_125 43).trans rfl
theorem q_125_43 {L : List Value} {x y : Int32} {S : List Value} {Z : gZ} {I : gI} {J : gJ} : g_at 125 43 L (.int y :: .int x :: S) Z I J = if x = y then g_at 125 82 L S Z I J else g_at 125 46 L S Z I J := gq_cmp e_125_43 rfl
theorem e_125_46 : g_Pg 125 46 = ga_aload 0 47 := (congrFun pg_125 46).trans rfl
theorem q_125_46 {l1 l2 l3 l4 l5 : Value} {x : Nat} {S : List Value} {Z : gZ} {I : gI} {J : gJ} : g_at 125 46 [.ref x, l1, l2, l3, l4, l5] S Z I J = g_at 125 47 [.ref x, l1, l2, l3, l4, l5] (.ref x :: S) Z I J := gq_aload e_125_46 rfl
theorem e_125_47 : g_Pg 125 47 = ga_getR 7 1 50 := (congrFun pg_125 47).trans rfl
theorem q_125_47 {L : List Value} {a : Nat} {S : List Value} {Z : gZ} {I : gI} {J : gJ} (h : (gKd Z a).1 = 7) (h1 : gRs Z a 1 = true) : g_at 125 47 L (.ref a :: S) Z I J = g_at 125 50 L (.ref (gRq Z a 1) :: S) Z I J := gq_getR e_125_47 h h1
theorem e_125_50 : g_Pg 125 50 = ga_iload 4 52 := (congrFun pg_125 50).trans rfl
theorem q_125_50 {l0 l1 l2 l3 l5 : Value} {x : Int32} {S : List Value} {Z : gZ} {I : gI} {J : gJ} : g_at 125 50 [l0, l1, l2, l3, .int x, l5] S Z I J = g_at 125 52 [l0, l1, l2, l3, .int x, l5] (.int x :: S) Z I J := gq_iload e_125_50 rfl
theorem e_125_52 : g_Pg 125 52 = ga_aload 0 53 := (congrFun pg_125 52).trans rfl
theorem q_125_52 {l1 l2 l3 l4 l5 : Value} {x : Nat} {S : List Value} {Z : gZ} {I : gI} {J : gJ} : g_at 125 52 [.ref x, l1, l2, l3, l4, l5] S Z I J = g_at 125 53 [.ref x, l1, l2, l3, l4, l5] (.ref x :: S) Z I J := gq_aload e_125_52 rfl
theorem e_125_53 : g_Pg 125 53 = ga_getR 7 1 56 := (congrFun pg_125 53).trans rfl
theorem q_125_53 {L : List Value} {a : Nat} {S : List Value} {Z : gZ} {I : gI} {J : gJ} (h : (gKd Z a).1 = 7) (h1 : gRs Z a 1 = true) : g_at 125 53 L (.ref a :: S) Z I J = g_at 125 56 L (.ref (gRq Z a 1) :: S) Z I J := gq_getR e_125_53 h h1
theorem e_125_56 : g_Pg 125 56 = ga_iload 2 57 := (congrFun pg_125 56).trans rfl
theorem q_125_56 {l0 l1 l3 l4 l5 : Value} {x : Int32} {S : List Value} {Z : gZ} {I : gI} {J : gJ} : g_at 125 56 [l0, l1, .int x, l3, l4, l5] S Z I J = g_at 125 57 [l0, l1, .int x, l3, l4, l5] (.int x :: S) Z I J := gq_iload e_125_56 rfl
theorem e_125_57 : g_Pg 125 57 = ga_iald 58 := (congrFun pg_125 57).trans rfl
theorem q_125_57 {L : List Value} {a : Nat} {i : Int32} {S : List Value} {Z : gZ} {I : gI} {J : gJ} (h : gTg8 (gKd Z a).1 a = true) (h0 : 0 ≤ i) (h1 : i.toNatClampNeg < (gKd Z a).2) : g_at 125 57 L (.int i :: .ref a :: S) Z I J = g_at 125 58 L (.int (I a i.toNatClampNeg) :: S) Z I J := gq_iald e_125_57 h h0 h1
theorem e_125_58 : g_Pg 125 58 = ga_iast 59 := (congrFun pg_125 58).trans rfl
theorem q_125_58 {L : List Value} {a : Nat} {i : Int32} {v : Int32} {S : List Value} {Z : gZ} {I : gI} {J : gJ} (h : (gKd Z a).1 = 8) (h0 : 0 ≤ i) (h1 : i.toNatClampNeg < (gKd Z a).2) : g_at 125 58 L (.int v :: .int i :: .ref a :: S) Z I J = g_at 125 59 L S Z (va_up I a (va_up (I a) i.toNatClampNeg v)) J := gq_iast e_125_58 h h0 h1
theorem e_125_59 : g_Pg 125 59 = ga_aload 0 60 := (congrFun pg_125 59).trans rfl
theorem q_125_59 {l1 l2 l3 l4 l5 : Value} {x : Nat} {S : List Value} {Z : gZ} {I : gI} {J : gJ} : g_at 125 59 [.ref x, l1, l2, l3, l4, l5] S Z I J = g_at 125 60 [.ref x, l1, l2, l3, l4, l5] (.ref x :: S) Z I J := gq_aload e_125_59 rfl
theorem e_125_60 : g_Pg 125 60 = ga_getR 7 2 63 := (congrFun pg_125 60).trans rfl
theorem q_125_60 {L : List Value} {a : Nat} {S : List Value} {Z : gZ} {I : gI} {J : gJ} (h : (gKd Z a).1 = 7) (h1 : gRs Z a 2 = true) : g_at 125 60 L (.ref a :: S) Z I J = g_at 125 63 L (.ref (gRq Z a 2) :: S) Z I J := gq_getR e_125_60 h h1
theorem e_125_63 : g_Pg 125 63 = ga_iload 4 65 := (congrFun pg_125 63).trans rfl
theorem q_125_63 {l0 l1 l2 l3 l5 : Value} {x : Int32} {S : List Value} {Z : gZ} {I : gI} {J : gJ} : g_at 125 63 [l0, l1, l2, l3, .int x, l5] S Z I J = g_at 125 65 [l0, l1, l2, l3, .int x, l5] (.int x :: S) Z I J := gq_iload e_125_63 rfl
theorem e_125_65 : g_Pg 125 65 = ga_dup2 66 := (congrFun pg_125 65).trans rfl
theorem q_125_65 {L : List Value} {x : Nat} {y : Int32} {S : List Value} {Z : gZ} {I : gI} {J : gJ} : g_at 125 65 L (.int y :: .ref x :: S) Z I J = g_at 125 66 L (.int y :: .ref x :: .int y :: .ref x :: S) Z I J := gq_dup2 e_125_65
theorem e_125_66 : g_Pg 125 66 = ga_iald 67 := (congrFun pg_125 66).trans rfl
theorem q_125_66 {L : List Value} {a : Nat} {i : Int32} {S : List Value} {Z : gZ} {I : gI} {J : gJ} (h : gTg8 (gKd Z a).1 a = true) (h0 : 0 ≤ i) (h1 : i.toNatClampNeg < (gKd Z a).2) : g_at 125 66 L (.int i :: .ref a :: S) Z I J = g_at 125 67 L (.int (I a i.toNatClampNeg) :: S) Z I J := gq_iald e_125_66 h h0 h1
theorem e_125_67 : g_Pg 125 67 = ga_aload 0 68 := (congrFun pg_125 67).trans rfl
theorem q_125_67 {l1 l2 l3 l4 l5 : Value} {x : Nat} {S : List Value} {Z : gZ} {I : gI} {J : gJ} : g_at 125 67 [.ref x, l1, l2, l3, l4, l5] S Z I J = g_at 125 68 [.ref x, l1, l2, l3, l4, l5] (.ref x :: S) Z I J := gq_aload e_125_67 rfl
theorem e_125_68 : g_Pg 125 68 = ga_getR 7 2 71 := (congrFun pg_125 68).trans rfl
theorem q_125_68 {L : List Value} {a : Nat} {S : List Value} {Z : gZ} {I : gI} {J : gJ} (h : (gKd Z a).1 = 7) (h1 : gRs Z a 2 = true) : g_at 125 68 L (.ref a :: S) Z I J = g_at 125 71 L (.ref (gRq Z a 2) :: S) Z I J := gq_getR e_125_68 h h1
theorem e_125_71 : g_Pg 125 71 = ga_iload 2 72 := (congrFun pg_125 71).trans rfl
theorem q_125_71 {l0 l1 l3 l4 l5 : Value} {x : Int32} {S : List Value} {Z : gZ} {I : gI} {J : gJ} : g_at 125 71 [l0, l1, .int x, l3, l4, l5] S Z I J = g_at 125 72 [l0, l1, .int x, l3, l4, l5] (.int x :: S) Z I J := gq_iload e_125_71 rfl
theorem e_125_72 : g_Pg 125 72 = ga_iald 73 := (congrFun pg_125 72).trans rfl
theorem q_125_72 {L : List Value} {a : Nat} {i : Int32} {S : List Value} {Z : gZ} {I : gI} {J : gJ} (h : gTg8 (gKd Z a).1 a = true) (h0 : 0 ≤ i) (h1 : i.toNatClampNeg < (gKd Z a).2) : g_at 125 72 L (.int i :: .ref a :: S) Z I J = g_at 125 73 L (.int (I a i.toNatClampNeg) :: S) Z I J := gq_iald e_125_72 h h0 h1
theorem e_125_73 : g_Pg 125 73 = ga_bin (fun x y => x + y) 74 := (congrFun pg_125 73).trans rfl
theorem q_125_73 {L : List Value} {x y : Int32} {S : List Value} {Z : gZ} {I : gI} {J : gJ} : g_at 125 73 L (.int y :: .int x :: S) Z I J = g_at 125 74 L (.int (x + y) :: S) Z I J := gq_bin e_125_73
theorem e_125_74 : g_Pg 125 74 = ga_iast 75 := (congrFun pg_125 74).trans rfl
theorem q_125_74 {L : List Value} {a : Nat} {i : Int32} {v : Int32} {S : List Value} {Z : gZ} {I : gI} {J : gJ} (h : (gKd Z a).1 = 8) (h0 : 0 ≤ i) (h1 : i.toNatClampNeg < (gKd Z a).2) : g_at 125 74 L (.int v :: .int i :: .ref a :: S) Z I J = g_at 125 75 L S Z (va_up I a (va_up (I a) i.toNatClampNeg v)) J := gq_iast e_125_74 h h0 h1
theorem e_125_75 : g_Pg 125 75 = ga_iload 3 76 := (congrFun pg_125 75).trans rfl
theorem q_125_75 {l0 l1 l2 l4 l5 : Value} {x : Int32} {S : List Value} {Z : gZ} {I : gI} {J : gJ} : g_at 125 75 [l0, l1, l2, .int x, l4, l5] S Z I J = g_at 125 76 [l0, l1, l2, .int x, l4, l5] (.int x :: S) Z I J := gq_iload e_125_75 rfl
theorem e_125_76 : g_Pg 125 76 = ga_push (.int 1) 77 := (congrFun pg_125 76).trans rfl
theorem q_125_76 {L : List Value} {S : List Value} {Z : gZ} {I : gI} {J : gJ} : g_at 125 76 L S Z I J = g_at 125 77 L (.int 1 :: S) Z I J := gq_push e_125_76
theorem e_125_77 : g_Pg 125 77 = ga_iload 4 79 := (congrFun pg_125 77).trans rfl
theorem q_125_77 {l0 l1 l2 l3 l5 : Value} {x : Int32} {S : List Value} {Z : gZ} {I : gI} {J : gJ} : g_at 125 77 [l0, l1, l2, l3, .int x, l5] S Z I J = g_at 125 79 [l0, l1, l2, l3, .int x, l5] (.int x :: S) Z I J := gq_iload e_125_77 rfl
theorem e_125_79 : g_Pg 125 79 = ga_bin (fun x y => x <<< (y &&& 31)) 80 := (congrFun pg_125 79).trans rfl
theorem q_125_79 {L : List Value} {x y : Int32} {S : List Value} {Z : gZ} {I : gI} {J : gJ} : g_at 125 79 L (.int y :: .int x :: S) Z I J = g_at 125 80 L (.int (x <<< (y &&& 31)) :: S) Z I J := gq_bin e_125_79
theorem e_125_80 : g_Pg 125 80 = ga_bin (fun x y => x ||| y) 81 := (congrFun pg_125 80).trans rfl
theorem q_125_80 {L : List Value} {x y : Int32} {S : List Value} {Z : gZ} {I : gI} {J : gJ} : g_at 125 80 L (.int y :: .int x :: S) Z I J = g_at 125 81 L (.int (x ||| y) :: S) Z I J := gq_bin e_125_80
theorem e_125_81 : g_Pg 125 81 = ga_istore 3 82 := (congrFun pg_125 81).trans rfl
theorem q_125_81 {l0 l1 l2 l3 l4 l5 : Value} {x : Int32} {S : List Value} {Z : gZ} {I : gI} {J : gJ} (h : gN1 l2 = true) : g_at 125 81 [l0, l1, l2, l3, l4, l5] (.int x :: S) Z I J = g_at 125 82 [l0, l1, l2, .int x, l4, l5] S Z I J := gq_istore e_125_81 h rfl rfl
theorem e_125_82 : g_Pg 125 82 = ga_iinc 4 1 85 := (congrFun pg_125 82).trans rfl
theorem q_125_82 {l0 l1 l2 l3 l5 : Value} {x : Int32} {S : List Value} {Z : gZ} {I : gI} {J : gJ} (h : gN1 l3 = true) : g_at 125 82 [l0, l1, l2, l3, .int x, l5] S Z I J = g_at 125 85 [l0, l1, l2, l3, .int (x + 1), l5] S Z I J := gq_iinc e_125_82 rfl h rfl
theorem e_125_85 : g_Pg 125 85 = ga_goto 5 := (congrFun pg_125 85).trans rfl
theorem q_125_85 {L : List Value} {S : List Value} {Z : gZ} {I : gI} {J : gJ} : g_at 125 85 L S Z I J = g_at 125 5 L S Z I J := gq_goto e_125_85
theorem e_125_88 : g_Pg 125 88 = ga_aload 0 89 := (congrFun pg_125 88).trans rfl
theorem q_125_88 {l1 l2 l3 l4 l5 : Value} {x : Nat} {S : List Value} {Z : gZ} {I : gI} {J : gJ} : g_at 125 88 [.ref x, l1, l2, l3, l4, l5] S Z I J = g_at 125 89 [.ref x, l1, l2, l3, l4, l5] (.ref x :: S) Z I J := gq_aload e_125_88 rfl
theorem e_125_89 : g_Pg 125 89 = ga_iload 1 90 := (congrFun pg_125 89).trans rfl
theorem q_125_89 {l0 l2 l3 l4 l5 : Value} {x : Int32} {S : List Value} {Z : gZ} {I : gI} {J : gJ} : g_at 125 89 [l0, .int x, l2, l3, l4, l5] S Z I J = g_at 125 90 [l0, .int x, l2, l3, l4, l5] (.int x :: S) Z I J := gq_iload e_125_89 rfl
theorem e_125_90 : g_Pg 125 90 = ga_callV 7 114 1 93 := (congrFun pg_125 90).trans rfl
theorem q_125_90 {L : List Value} {a0 : Int32} {a1 : Nat} {Z : gZ} {I : gI} {J : gJ} (h : (gKd Z a1).1 = 7) : g_at 125 90 L [.int a0, .ref a1] Z I J = (g_at 114 0 [.ref a1, .int a0, .null, .null] [] Z I J).bind (fun r => g_at 125 93 L (r.1.toList ++ []) r.2.1 r.2.2.1 r.2.2.2) := gq_callV e_125_90 rfl rfl h rfl rfl rfl rfl rfl
theorem e_125_93 : g_Pg 125 93 = ga_call 124 1 96 := (congrFun pg_125 93).trans rfl
theorem q_125_93 {L : List Value} {a0 : Int32} {Z : gZ} {I : gI} {J : gJ} : g_at 125 93 L [.int a0] Z I J = (g_at 124 0 [.int a0, .null, .null] [] Z I J).bind (fun r => g_at 125 96 L (r.1.toList ++ []) r.2.1 r.2.2.1 r.2.2.2) := gq_call e_125_93 rfl rfl rfl rfl rfl
theorem e_125_96 : g_Pg 125 96 = ga_istore 4 98 := (congrFun pg_125 96).trans rfl
theorem q_125_96 {l0 l1 l2 l3 l4 l5 : Value} {x : Int32} {S : List Value} {Z : gZ} {I : gI} {J : gJ} (h : gN1 l3 = true) : g_at 125 96 [l0, l1, l2, l3, l4, l5] (.int x :: S) Z I J = g_at 125 98 [l0, l1, l2, l3, .int x, l5] S Z I J := gq_istore e_125_96 h rfl rfl
theorem e_125_98 : g_Pg 125 98 = ga_push (.int 0) 99 := (congrFun pg_125 98).trans rfl
theorem q_125_98 {L : List Value} {S : List Value} {Z : gZ} {I : gI} {J : gJ} : g_at 125 98 L S Z I J = g_at 125 99 L (.int 0 :: S) Z I J := gq_push e_125_98
theorem e_125_99 : g_Pg 125 99 = ga_istore 5 101 := (congrFun pg_125 99).trans rfl
theorem q_125_99 {l0 l1 l2 l3 l4 l5 : Value} {x : Int32} {S : List Value} {Z : gZ} {I : gI} {J : gJ} (h : gN1 l4 = true) : g_at 125 99 [l0, l1, l2, l3, l4, l5] (.int x :: S) Z I J = g_at 125 101 [l0, l1, l2, l3, l4, .int x] S Z I J := gq_istore e_125_99 h rfl rfl
theorem e_125_101 : g_Pg 125 101 = ga_iload 5 103 := (congrFun pg_125 101).trans rfl
theorem q_125_101 {l0 l1 l2 l3 l4 : Value} {x : Int32} {S : List Value} {Z : gZ} {I : gI} {J : gJ} : g_at 125 101 [l0, l1, l2, l3, l4, .int x] S Z I J = g_at 125 103 [l0, l1, l2, l3, l4, .int x] (.int x :: S) Z I J := gq_iload e_125_101 rfl
theorem e_125_103 : g_Pg 125 103 = ga_aload 0 104 := (congrFun pg_125 103).trans rfl
theorem q_125_103 {l1 l2 l3 l4 l5 : Value} {x : Nat} {S : List Value} {Z : gZ} {I : gI} {J : gJ} : g_at 125 103 [.ref x, l1, l2, l3, l4, l5] S Z I J = g_at 125 104 [.ref x, l1, l2, l3, l4, l5] (.ref x :: S) Z I J := gq_aload e_125_103 rfl
theorem e_125_104 : g_Pg 125 104 = ga_getI 7 0 107 := (congrFun pg_125 104).trans rfl
theorem q_125_104 {L : List Value} {a : Nat} {S : List Value} {Z : gZ} {I : gI} {J : gJ} (h : (gKd Z a).1 = 7) : g_at 125 104 L (.ref a :: S) Z I J = g_at 125 107 L (.int (I a 0) :: S) Z I J := gq_getI e_125_104 h
theorem e_125_107 : g_Pg 125 107 = ga_cmp (fun x y => decide (y ≤ x)) 149 110 := (congrFun pg_125 107).trans rfl
theorem q_125_107 {L : List Value} {x y : Int32} {S : List Value} {Z : gZ} {I : gI} {J : gJ} : g_at 125 107 L (.int y :: .int x :: S) Z I J = if y ≤ x then g_at 125 149 L S Z I J else g_at 125 110 L S Z I J := gq_cmp e_125_107 rfl
theorem e_125_110 : g_Pg 125 110 = ga_iload 3 111 := (congrFun pg_125 110).trans rfl
theorem q_125_110 {l0 l1 l2 l4 l5 : Value} {x : Int32} {S : List Value} {Z : gZ} {I : gI} {J : gJ} : g_at 125 110 [l0, l1, l2, .int x, l4, l5] S Z I J = g_at 125 111 [l0, l1, l2, .int x, l4, l5] (.int x :: S) Z I J := gq_iload e_125_110 rfl
theorem e_125_111 : g_Pg 125 111 = ga_iload 5 113 := (congrFun pg_125 111).trans rfl
theorem q_125_111 {l0 l1 l2 l3 l4 : Value} {x : Int32} {S : List Value} {Z : gZ} {I : gI} {J : gJ} : g_at 125 111 [l0, l1, l2, l3, l4, .int x] S Z I J = g_at 125 113 [l0, l1, l2, l3, l4, .int x] (.int x :: S) Z I J := gq_iload e_125_111 rfl
theorem e_125_113 : g_Pg 125 113 = ga_call 84 2 116 := (congrFun pg_125 113).trans rfl
theorem q_125_113 {L : List Value} {a0 : Int32} {a1 : Int32} {Z : gZ} {I : gI} {J : gJ} : g_at 125 113 L [.int a0, .int a1] Z I J = (g_at 84 0 [.int a1, .int a0] [] Z I J).bind (fun r => g_at 125 116 L (r.1.toList ++ []) r.2.1 r.2.2.1 r.2.2.2) := gq_call e_125_113 rfl rfl rfl rfl rfl
theorem e_125_116 : g_Pg 125 116 = ga_if (fun x => decide (x = 0)) 143 119 := (congrFun pg_125 116).trans rfl
theorem q_125_116 {L : List Value} {x : Int32} {S : List Value} {Z : gZ} {I : gI} {J : gJ} : g_at 125 116 L (.int x :: S) Z I J = if x = 0 then g_at 125 143 L S Z I J else g_at 125 119 L S Z I J := gq_if e_125_116 rfl
theorem e_125_119 : g_Pg 125 119 = ga_aload 0 120 := (congrFun pg_125 119).trans rfl
theorem q_125_119 {l1 l2 l3 l4 l5 : Value} {x : Nat} {S : List Value} {Z : gZ} {I : gI} {J : gJ} : g_at 125 119 [.ref x, l1, l2, l3, l4, l5] S Z I J = g_at 125 120 [.ref x, l1, l2, l3, l4, l5] (.ref x :: S) Z I J := gq_aload e_125_119 rfl
theorem e_125_120 : g_Pg 125 120 = ga_getR 7 1 123 := (congrFun pg_125 120).trans rfl
theorem q_125_120 {L : List Value} {a : Nat} {S : List Value} {Z : gZ} {I : gI} {J : gJ} (h : (gKd Z a).1 = 7) (h1 : gRs Z a 1 = true) : g_at 125 120 L (.ref a :: S) Z I J = g_at 125 123 L (.ref (gRq Z a 1) :: S) Z I J := gq_getR e_125_120 h h1
theorem e_125_123 : g_Pg 125 123 = ga_iload 5 125 := (congrFun pg_125 123).trans rfl
theorem q_125_123 {l0 l1 l2 l3 l4 : Value} {x : Int32} {S : List Value} {Z : gZ} {I : gI} {J : gJ} : g_at 125 123 [l0, l1, l2, l3, l4, .int x] S Z I J = g_at 125 125 [l0, l1, l2, l3, l4, .int x] (.int x :: S) Z I J := gq_iload e_125_123 rfl
theorem e_125_125 : g_Pg 125 125 = ga_iload 2 126 := (congrFun pg_125 125).trans rfl
theorem q_125_125 {l0 l1 l3 l4 l5 : Value} {x : Int32} {S : List Value} {Z : gZ} {I : gI} {J : gJ} : g_at 125 125 [l0, l1, .int x, l3, l4, l5] S Z I J = g_at 125 126 [l0, l1, .int x, l3, l4, l5] (.int x :: S) Z I J := gq_iload e_125_125 rfl
theorem e_125_126 : g_Pg 125 126 = ga_iast 127 := (congrFun pg_125 126).trans rfl
theorem q_125_126 {L : List Value} {a : Nat} {i : Int32} {v : Int32} {S : List Value} {Z : gZ} {I : gI} {J : gJ} (h : (gKd Z a).1 = 8) (h0 : 0 ≤ i) (h1 : i.toNatClampNeg < (gKd Z a).2) : g_at 125 126 L (.int v :: .int i :: .ref a :: S) Z I J = g_at 125 127 L S Z (va_up I a (va_up (I a) i.toNatClampNeg v)) J := gq_iast e_125_126 h h0 h1
theorem e_125_127 : g_Pg 125 127 = ga_aload 0 128 := (congrFun pg_125 127).trans rfl
theorem q_125_127 {l1 l2 l3 l4 l5 : Value} {x : Nat} {S : List Value} {Z : gZ} {I : gI} {J : gJ} : g_at 125 127 [.ref x, l1, l2, l3, l4, l5] S Z I J = g_at 125 128 [.ref x, l1, l2, l3, l4, l5] (.ref x :: S) Z I J := gq_aload e_125_127 rfl
theorem e_125_128 : g_Pg 125 128 = ga_getR 7 2 131 := (congrFun pg_125 128).trans rfl
theorem q_125_128 {L : List Value} {a : Nat} {S : List Value} {Z : gZ} {I : gI} {J : gJ} (h : (gKd Z a).1 = 7) (h1 : gRs Z a 2 = true) : g_at 125 128 L (.ref a :: S) Z I J = g_at 125 131 L (.ref (gRq Z a 2) :: S) Z I J := gq_getR e_125_128 h h1
theorem e_125_131 : g_Pg 125 131 = ga_iload 5 133 := (congrFun pg_125 131).trans rfl
theorem q_125_131 {l0 l1 l2 l3 l4 : Value} {x : Int32} {S : List Value} {Z : gZ} {I : gI} {J : gJ} : g_at 125 131 [l0, l1, l2, l3, l4, .int x] S Z I J = g_at 125 133 [l0, l1, l2, l3, l4, .int x] (.int x :: S) Z I J := gq_iload e_125_131 rfl
theorem e_125_133 : g_Pg 125 133 = ga_dup2 134 := (congrFun pg_125 133).trans rfl
theorem q_125_133 {L : List Value} {x : Nat} {y : Int32} {S : List Value} {Z : gZ} {I : gI} {J : gJ} : g_at 125 133 L (.int y :: .ref x :: S) Z I J = g_at 125 134 L (.int y :: .ref x :: .int y :: .ref x :: S) Z I J := gq_dup2 e_125_133
theorem e_125_134 : g_Pg 125 134 = ga_iald 135 := (congrFun pg_125 134).trans rfl
theorem q_125_134 {L : List Value} {a : Nat} {i : Int32} {S : List Value} {Z : gZ} {I : gI} {J : gJ} (h : gTg8 (gKd Z a).1 a = true) (h0 : 0 ≤ i) (h1 : i.toNatClampNeg < (gKd Z a).2) : g_at 125 134 L (.int i :: .ref a :: S) Z I J = g_at 125 135 L (.int (I a i.toNatClampNeg) :: S) Z I J := gq_iald e_125_134 h h0 h1
theorem e_125_135 : g_Pg 125 135 = ga_aload 0 136 := (congrFun pg_125 135).trans rfl
theorem q_125_135 {l1 l2 l3 l4 l5 : Value} {x : Nat} {S : List Value} {Z : gZ} {I : gI} {J : gJ} : g_at 125 135 [.ref x, l1, l2, l3, l4, l5] S Z I J = g_at 125 136 [.ref x, l1, l2, l3, l4, l5] (.ref x :: S) Z I J := gq_aload e_125_135 rfl
theorem e_125_136 : g_Pg 125 136 = ga_getR 7 2 139 := (congrFun pg_125 136).trans rfl
theorem q_125_136 {L : List Value} {a : Nat} {S : List Value} {Z : gZ} {I : gI} {J : gJ} (h : (gKd Z a).1 = 7) (h1 : gRs Z a 2 = true) : g_at 125 136 L (.ref a :: S) Z I J = g_at 125 139 L (.ref (gRq Z a 2) :: S) Z I J := gq_getR e_125_136 h h1
theorem e_125_139 : g_Pg 125 139 = ga_iload 2 140 := (congrFun pg_125 139).trans rfl
theorem q_125_139 {l0 l1 l3 l4 l5 : Value} {x : Int32} {S : List Value} {Z : gZ} {I : gI} {J : gJ} : g_at 125 139 [l0, l1, .int x, l3, l4, l5] S Z I J = g_at 125 140 [l0, l1, .int x, l3, l4, l5] (.int x :: S) Z I J := gq_iload e_125_139 rfl
theorem e_125_140 : g_Pg 125 140 = ga_iald 141 := (congrFun pg_125 140).trans rfl
theorem q_125_140 {L : List Value} {a : Nat} {i : Int32} {S : List Value} {Z : gZ} {I : gI} {J : gJ} (h : gTg8 (gKd Z a).1 a = true) (h0 : 0 ≤ i) (h1 : i.toNatClampNeg < (gKd Z a).2) : g_at 125 140 L (.int i :: .ref a :: S) Z I J = g_at 125 141 L (.int (I a i.toNatClampNeg) :: S) Z I J := gq_iald e_125_140 h h0 h1
theorem e_125_141 : g_Pg 125 141 = ga_bin (fun x y => x - y) 142 := (congrFun pg_125 141).trans rfl
theorem q_125_141 {L : List Value} {x y : Int32} {S : List Value} {Z : gZ} {I : gI} {J : gJ} : g_at 125 141 L (.int y :: .int x :: S) Z I J = g_at 125 142 L (.int (x - y) :: S) Z I J := gq_bin e_125_141
theorem e_125_142 : g_Pg 125 142 = ga_iast 143 := (congrFun pg_125 142).trans rfl
theorem q_125_142 {L : List Value} {a : Nat} {i : Int32} {v : Int32} {S : List Value} {Z : gZ} {I : gI} {J : gJ} (h : (gKd Z a).1 = 8) (h0 : 0 ≤ i) (h1 : i.toNatClampNeg < (gKd Z a).2) : g_at 125 142 L (.int v :: .int i :: .ref a :: S) Z I J = g_at 125 143 L S Z (va_up I a (va_up (I a) i.toNatClampNeg v)) J := gq_iast e_125_142 h h0 h1
theorem e_125_143 : g_Pg 125 143 = ga_iinc 5 1 146 := (congrFun pg_125 143).trans rfl
theorem q_125_143 {l0 l1 l2 l3 l4 : Value} {x : Int32} {S : List Value} {Z : gZ} {I : gI} {J : gJ} (h : gN1 l4 = true) : g_at 125 143 [l0, l1, l2, l3, l4, .int x] S Z I J = g_at 125 146 [l0, l1, l2, l3, l4, .int (x + 1)] S Z I J := gq_iinc e_125_143 rfl h rfl
theorem e_125_146 : g_Pg 125 146 = ga_goto 101 := (congrFun pg_125 146).trans rfl
theorem q_125_146 {L : List Value} {S : List Value} {Z : gZ} {I : gI} {J : gJ} : g_at 125 146 L S Z I J = g_at 125 101 L S Z I J := gq_goto e_125_146
theorem e_125_149 : g_Pg 125 149 = ga_iload 4 151 := (congrFun pg_125 149).trans rfl
theorem q_125_149 {l0 l1 l2 l3 l5 : Value} {x : Int32} {S : List Value} {Z : gZ} {I : gI} {J : gJ} : g_at 125 149 [l0, l1, l2, l3, .int x, l5] S Z I J = g_at 125 151 [l0, l1, l2, l3, .int x, l5] (.int x :: S) Z I J := gq_iload e_125_149 rfl
theorem e_125_151 : g_Pg 125 151 = ga_iret := (congrFun pg_125 151).trans rfl
theorem q_125_151 {L : List Value} {x : Int32} {Z : gZ} {I : gI} {J : gJ} : g_at 125 151 L [.int x] Z I J = some (some (.int x), Z, I, J) := gq_iret e_125_151
theorem e_126_0 : g_Pg 126 0 = ga_aload 0 1 := (congrFun pg_126 0).trans rfl
theorem q_126_0 {l1 l2 l3 l4 l5 l6 : Value} {x : Nat} {S : List Value} {Z : gZ} {I : gI} {J : gJ} : g_at 126 0 [.ref x, l1, l2, l3, l4, l5, l6] S Z I J = g_at 126 1 [.ref x, l1, l2, l3, l4, l5, l6] (.ref x :: S) Z I J := gq_aload e_126_0 rfl
theorem e_126_1 : g_Pg 126 1 = ga_iload 1 2 := (congrFun pg_126 1).trans rfl
theorem q_126_1 {l0 l2 l3 l4 l5 l6 : Value} {x : Int32} {S : List Value} {Z : gZ} {I : gI} {J : gJ} : g_at 126 1 [l0, .int x, l2, l3, l4, l5, l6] S Z I J = g_at 126 2 [l0, .int x, l2, l3, l4, l5, l6] (.int x :: S) Z I J := gq_iload e_126_1 rfl
theorem e_126_2 : g_Pg 126 2 = ga_callV 7 85 1 5 := (congrFun pg_126 2).trans rfl
theorem q_126_2 {L : List Value} {a0 : Int32} {a1 : Nat} {Z : gZ} {I : gI} {J : gJ} (h : (gKd Z a1).1 = 7) : g_at 126 2 L [.int a0, .ref a1] Z I J = (g_at 85 0 [.ref a1, .int a0] [] Z I J).bind (fun r => g_at 126 5 L (r.1.toList ++ []) r.2.1 r.2.2.1 r.2.2.2) := gq_callV e_126_2 rfl rfl h rfl rfl rfl rfl rfl
theorem e_126_5 : g_Pg 126 5 = ga_if (fun x => decide (¬ x = 0)) 11 8 := (congrFun pg_126 5).trans rfl
theorem q_126_5 {L : List Value} {x : Int32} {S : List Value} {Z : gZ} {I : gI} {J : gJ} : g_at 126 5 L (.int x :: S) Z I J = if ¬ x = 0 then g_at 126 11 L S Z I J else g_at 126 8 L S Z I J := gq_if e_126_5 rfl
theorem e_126_8 : g_Pg 126 8 = ga_push (.int (-2)) 10 := (congrFun pg_126 8).trans rfl
theorem q_126_8 {L : List Value} {S : List Value} {Z : gZ} {I : gI} {J : gJ} : g_at 126 8 L S Z I J = g_at 126 10 L (.int (-2) :: S) Z I J := gq_push e_126_8
theorem e_126_10 : g_Pg 126 10 = ga_iret := (congrFun pg_126 10).trans rfl
theorem q_126_10 {L : List Value} {x : Int32} {Z : gZ} {I : gI} {J : gJ} : g_at 126 10 L [.int x] Z I J = some (some (.int x), Z, I, J) := gq_iret e_126_10
theorem e_126_11 : g_Pg 126 11 = ga_iload 2 12 := (congrFun pg_126 11).trans rfl
theorem q_126_11 {l0 l1 l3 l4 l5 l6 : Value} {x : Int32} {S : List Value} {Z : gZ} {I : gI} {J : gJ} : g_at 126 11 [l0, l1, .int x, l3, l4, l5, l6] S Z I J = g_at 126 12 [l0, l1, .int x, l3, l4, l5, l6] (.int x :: S) Z I J := gq_iload e_126_11 rfl
theorem e_126_12 : g_Pg 126 12 = ga_push (.int 0) 13 := (congrFun pg_126 12).trans rfl
theorem q_126_12 {L : List Value} {S : List Value} {Z : gZ} {I : gI} {J : gJ} : g_at 126 12 L S Z I J = g_at 126 13 L (.int 0 :: S) Z I J := gq_push e_126_12
theorem e_126_13 : g_Pg 126 13 = ga_push (.int 1) 14 := (congrFun pg_126 13).trans rfl
theorem q_126_13 {L : List Value} {S : List Value} {Z : gZ} {I : gI} {J : gJ} : g_at 126 13 L S Z I J = g_at 126 14 L (.int 1 :: S) Z I J := gq_push e_126_13
theorem e_126_14 : g_Pg 126 14 = ga_call 83 3 17 := (congrFun pg_126 14).trans rfl
theorem q_126_14 {L : List Value} {a0 : Int32} {a1 : Int32} {a2 : Int32} {Z : gZ} {I : gI} {J : gJ} : g_at 126 14 L [.int a0, .int a1, .int a2] Z I J = (g_at 83 0 [.int a2, .int a1, .int a0] [] Z I J).bind (fun r => g_at 126 17 L (r.1.toList ++ []) r.2.1 r.2.2.1 r.2.2.2) := gq_call e_126_14 rfl rfl rfl rfl rfl
theorem e_126_17 : g_Pg 126 17 = ga_if (fun x => decide (¬ x = 0)) 23 20 := (congrFun pg_126 17).trans rfl
theorem q_126_17 {L : List Value} {x : Int32} {S : List Value} {Z : gZ} {I : gI} {J : gJ} : g_at 126 17 L (.int x :: S) Z I J = if ¬ x = 0 then g_at 126 23 L S Z I J else g_at 126 20 L S Z I J := gq_if e_126_17 rfl
theorem e_126_20 : g_Pg 126 20 = ga_push (.int (-3)) 22 := (congrFun pg_126 20).trans rfl
theorem q_126_20 {L : List Value} {S : List Value} {Z : gZ} {I : gI} {J : gJ} : g_at 126 20 L S Z I J = g_at 126 22 L (.int (-3) :: S) Z I J := gq_push e_126_20
theorem e_126_22 : g_Pg 126 22 = ga_iret := (congrFun pg_126 22).trans rfl
theorem q_126_22 {L : List Value} {x : Int32} {Z : gZ} {I : gI} {J : gJ} : g_at 126 22 L [.int x] Z I J = some (some (.int x), Z, I, J) := gq_iret e_126_22
theorem e_126_23 : g_Pg 126 23 = ga_aload 0 24 := (congrFun pg_126 23).trans rfl
theorem q_126_23 {l1 l2 l3 l4 l5 l6 : Value} {x : Nat} {S : List Value} {Z : gZ} {I : gI} {J : gJ} : g_at 126 23 [.ref x, l1, l2, l3, l4, l5, l6] S Z I J = g_at 126 24 [.ref x, l1, l2, l3, l4, l5, l6] (.ref x :: S) Z I J := gq_aload e_126_23 rfl
theorem e_126_24 : g_Pg 126 24 = ga_iload 1 25 := (congrFun pg_126 24).trans rfl
theorem q_126_24 {l0 l2 l3 l4 l5 l6 : Value} {x : Int32} {S : List Value} {Z : gZ} {I : gI} {J : gJ} : g_at 126 24 [l0, .int x, l2, l3, l4, l5, l6] S Z I J = g_at 126 25 [l0, .int x, l2, l3, l4, l5, l6] (.int x :: S) Z I J := gq_iload e_126_24 rfl
theorem e_126_25 : g_Pg 126 25 = ga_callV 7 114 1 28 := (congrFun pg_126 25).trans rfl
theorem q_126_25 {L : List Value} {a0 : Int32} {a1 : Nat} {Z : gZ} {I : gI} {J : gJ} (h : (gKd Z a1).1 = 7) : g_at 126 25 L [.int a0, .ref a1] Z I J = (g_at 114 0 [.ref a1, .int a0, .null, .null] [] Z I J).bind (fun r => g_at 126 28 L (r.1.toList ++ []) r.2.1 r.2.2.1 r.2.2.2) := gq_callV e_126_25 rfl rfl h rfl rfl rfl rfl rfl
theorem e_126_28 : g_Pg 126 28 = ga_call 124 1 31 := (congrFun pg_126 28).trans rfl
theorem q_126_28 {L : List Value} {a0 : Int32} {Z : gZ} {I : gI} {J : gJ} : g_at 126 28 L [.int a0] Z I J = (g_at 124 0 [.int a0, .null, .null] [] Z I J).bind (fun r => g_at 126 31 L (r.1.toList ++ []) r.2.1 r.2.2.1 r.2.2.2) := gq_call e_126_28 rfl rfl rfl rfl rfl
theorem e_126_31 : g_Pg 126 31 = ga_istore 3 32 := (congrFun pg_126 31).trans rfl
theorem q_126_31 {l0 l1 l2 l3 l4 l5 l6 : Value} {x : Int32} {S : List Value} {Z : gZ} {I : gI} {J : gJ} (h : gN1 l2 = true) : g_at 126 31 [l0, l1, l2, l3, l4, l5, l6] (.int x :: S) Z I J = g_at 126 32 [l0, l1, l2, .int x, l4, l5, l6] S Z I J := gq_istore e_126_31 h rfl rfl
theorem e_126_32 : g_Pg 126 32 = ga_push (.int (-1)) 33 := (congrFun pg_126 32).trans rfl
theorem q_126_32 {L : List Value} {S : List Value} {Z : gZ} {I : gI} {J : gJ} : g_at 126 32 L S Z I J = g_at 126 33 L (.int (-1) :: S) Z I J := gq_push e_126_32
theorem e_126_33 : g_Pg 126 33 = ga_istore 4 35 := (congrFun pg_126 33).trans rfl
theorem q_126_33 {l0 l1 l2 l3 l4 l5 l6 : Value} {x : Int32} {S : List Value} {Z : gZ} {I : gI} {J : gJ} (h : gN1 l3 = true) : g_at 126 33 [l0, l1, l2, l3, l4, l5, l6] (.int x :: S) Z I J = g_at 126 35 [l0, l1, l2, l3, .int x, l5, l6] S Z I J := gq_istore e_126_33 h rfl rfl
theorem e_126_35 : g_Pg 126 35 = ga_push (.int 0) 36 := (congrFun pg_126 35).trans rfl
theorem q_126_35 {L : List Value} {S : List Value} {Z : gZ} {I : gI} {J : gJ} : g_at 126 35 L S Z I J = g_at 126 36 L (.int 0 :: S) Z I J := gq_push e_126_35
theorem e_126_36 : g_Pg 126 36 = ga_istore 5 38 := (congrFun pg_126 36).trans rfl
theorem q_126_36 {l0 l1 l2 l3 l4 l5 l6 : Value} {x : Int32} {S : List Value} {Z : gZ} {I : gI} {J : gJ} (h : gN1 l4 = true) : g_at 126 36 [l0, l1, l2, l3, l4, l5, l6] (.int x :: S) Z I J = g_at 126 38 [l0, l1, l2, l3, l4, .int x, l6] S Z I J := gq_istore e_126_36 h rfl rfl
theorem e_126_38 : g_Pg 126 38 = ga_iload 5 40 := (congrFun pg_126 38).trans rfl
theorem q_126_38 {l0 l1 l2 l3 l4 l6 : Value} {x : Int32} {S : List Value} {Z : gZ} {I : gI} {J : gJ} : g_at 126 38 [l0, l1, l2, l3, l4, .int x, l6] S Z I J = g_at 126 40 [l0, l1, l2, l3, l4, .int x, l6] (.int x :: S) Z I J := gq_iload e_126_38 rfl
theorem e_126_40 : g_Pg 126 40 = ga_aload 0 41 := (congrFun pg_126 40).trans rfl
theorem q_126_40 {l1 l2 l3 l4 l5 l6 : Value} {x : Nat} {S : List Value} {Z : gZ} {I : gI} {J : gJ} : g_at 126 40 [.ref x, l1, l2, l3, l4, l5, l6] S Z I J = g_at 126 41 [.ref x, l1, l2, l3, l4, l5, l6] (.ref x :: S) Z I J := gq_aload e_126_40 rfl
theorem e_126_41 : g_Pg 126 41 = ga_getI 7 0 44 := (congrFun pg_126 41).trans rfl
theorem q_126_41 {L : List Value} {a : Nat} {S : List Value} {Z : gZ} {I : gI} {J : gJ} (h : (gKd Z a).1 = 7) : g_at 126 41 L (.ref a :: S) Z I J = g_at 126 44 L (.int (I a 0) :: S) Z I J := gq_getI e_126_41 h
theorem e_126_44 : g_Pg 126 44 = ga_cmp (fun x y => decide (y ≤ x)) 105 47 := (congrFun pg_126 44).trans rfl
theorem q_126_44 {L : List Value} {x y : Int32} {S : List Value} {Z : gZ} {I : gI} {J : gJ} : g_at 126 44 L (.int y :: .int x :: S) Z I J = if y ≤ x then g_at 126 105 L S Z I J else g_at 126 47 L S Z I J := gq_cmp e_126_44 rfl
theorem e_126_47 : g_Pg 126 47 = ga_aload 0 48 := (congrFun pg_126 47).trans rfl
theorem q_126_47 {l1 l2 l3 l4 l5 l6 : Value} {x : Nat} {S : List Value} {Z : gZ} {I : gI} {J : gJ} : g_at 126 47 [.ref x, l1, l2, l3, l4, l5, l6] S Z I J = g_at 126 48 [.ref x, l1, l2, l3, l4, l5, l6] (.ref x :: S) Z I J := gq_aload e_126_47 rfl
theorem e_126_48 : g_Pg 126 48 = ga_getR 7 3 51 := (congrFun pg_126 48).trans rfl
theorem q_126_48 {L : List Value} {a : Nat} {S : List Value} {Z : gZ} {I : gI} {J : gJ} (h : (gKd Z a).1 = 7) (h1 : gRs Z a 3 = true) : g_at 126 48 L (.ref a :: S) Z I J = g_at 126 51 L (.ref (gRq Z a 3) :: S) Z I J := gq_getR e_126_48 h h1
theorem e_126_51 : g_Pg 126 51 = ga_iload 5 53 := (congrFun pg_126 51).trans rfl
theorem q_126_51 {l0 l1 l2 l3 l4 l6 : Value} {x : Int32} {S : List Value} {Z : gZ} {I : gI} {J : gJ} : g_at 126 51 [l0, l1, l2, l3, l4, .int x, l6] S Z I J = g_at 126 53 [l0, l1, l2, l3, l4, .int x, l6] (.int x :: S) Z I J := gq_iload e_126_51 rfl
theorem e_126_53 : g_Pg 126 53 = ga_iald 54 := (congrFun pg_126 53).trans rfl
theorem q_126_53 {L : List Value} {a : Nat} {i : Int32} {S : List Value} {Z : gZ} {I : gI} {J : gJ} (h : gTg8 (gKd Z a).1 a = true) (h0 : 0 ≤ i) (h1 : i.toNatClampNeg < (gKd Z a).2) : g_at 126 53 L (.int i :: .ref a :: S) Z I J = g_at 126 54 L (.int (I a i.toNatClampNeg) :: S) Z I J := gq_iald e_126_53 h h0 h1
theorem e_126_54 : g_Pg 126 54 = ga_push (.int 1) 55 := (congrFun pg_126 54).trans rfl
theorem q_126_54 {L : List Value} {S : List Value} {Z : gZ} {I : gI} {J : gJ} : g_at 126 54 L S Z I J = g_at 126 55 L (.int 1 :: S) Z I J := gq_push e_126_54
theorem e_126_55 : g_Pg 126 55 = ga_cmp (fun x y => decide (¬ x = y)) 68 58 := (congrFun pg_126 55).trans rfl
theorem q_126_55 {L : List Value} {x y : Int32} {S : List Value} {Z : gZ} {I : gI} {J : gJ} : g_at 126 55 L (.int y :: .int x :: S) Z I J = if ¬ x = y then g_at 126 68 L S Z I J else g_at 126 58 L S Z I J := gq_cmp e_126_55 rfl
theorem e_126_58 : g_Pg 126 58 = ga_aload 0 59 := (congrFun pg_126 58).trans rfl
theorem q_126_58 {l1 l2 l3 l4 l5 l6 : Value} {x : Nat} {S : List Value} {Z : gZ} {I : gI} {J : gJ} : g_at 126 58 [.ref x, l1, l2, l3, l4, l5, l6] S Z I J = g_at 126 59 [.ref x, l1, l2, l3, l4, l5, l6] (.ref x :: S) Z I J := gq_aload e_126_58 rfl
theorem e_126_59 : g_Pg 126 59 = ga_iload 1 60 := (congrFun pg_126 59).trans rfl
theorem q_126_59 {l0 l2 l3 l4 l5 l6 : Value} {x : Int32} {S : List Value} {Z : gZ} {I : gI} {J : gJ} : g_at 126 59 [l0, .int x, l2, l3, l4, l5, l6] S Z I J = g_at 126 60 [l0, .int x, l2, l3, l4, l5, l6] (.int x :: S) Z I J := gq_iload e_126_59 rfl
theorem e_126_60 : g_Pg 126 60 = ga_iload 5 62 := (congrFun pg_126 60).trans rfl
theorem q_126_60 {l0 l1 l2 l3 l4 l6 : Value} {x : Int32} {S : List Value} {Z : gZ} {I : gI} {J : gJ} : g_at 126 60 [l0, l1, l2, l3, l4, .int x, l6] S Z I J = g_at 126 62 [l0, l1, l2, l3, l4, .int x, l6] (.int x :: S) Z I J := gq_iload e_126_60 rfl
theorem e_126_62 : g_Pg 126 62 = ga_callV 7 125 2 65 := (congrFun pg_126 62).trans rfl
theorem q_126_62 {L : List Value} {a0 : Int32} {a1 : Int32} {a2 : Nat} {Z : gZ} {I : gI} {J : gJ} (h : (gKd Z a2).1 = 7) : g_at 126 62 L [.int a0, .int a1, .ref a2] Z I J = (g_at 125 0 [.ref a2, .int a1, .int a0, .null, .null, .null] [] Z I J).bind (fun r => g_at 126 65 L (r.1.toList ++ []) r.2.1 r.2.2.1 r.2.2.2) := gq_callV e_126_62 rfl rfl h rfl rfl rfl rfl rfl
theorem e_126_65 : g_Pg 126 65 = ga_goto 69 := (congrFun pg_126 65).trans rfl
theorem q_126_65 {L : List Value} {S : List Value} {Z : gZ} {I : gI} {J : gJ} : g_at 126 65 L S Z I J = g_at 126 69 L S Z I J := gq_goto e_126_65
theorem e_126_68 : g_Pg 126 68 = ga_push (.int 0) 69 := (congrFun pg_126 68).trans rfl
theorem q_126_68 {L : List Value} {S : List Value} {Z : gZ} {I : gI} {J : gJ} : g_at 126 68 L S Z I J = g_at 126 69 L (.int 0 :: S) Z I J := gq_push e_126_68
theorem e_126_69 : g_Pg 126 69 = ga_istore 6 71 := (congrFun pg_126 69).trans rfl
theorem q_126_69 {l0 l1 l2 l3 l4 l5 l6 : Value} {x : Int32} {S : List Value} {Z : gZ} {I : gI} {J : gJ} (h : gN1 l5 = true) : g_at 126 69 [l0, l1, l2, l3, l4, l5, l6] (.int x :: S) Z I J = g_at 126 71 [l0, l1, l2, l3, l4, l5, .int x] S Z I J := gq_istore e_126_69 h rfl rfl
theorem e_126_71 : g_Pg 126 71 = ga_iload 6 73 := (congrFun pg_126 71).trans rfl
theorem q_126_71 {l0 l1 l2 l3 l4 l5 : Value} {x : Int32} {S : List Value} {Z : gZ} {I : gI} {J : gJ} : g_at 126 71 [l0, l1, l2, l3, l4, l5, .int x] S Z I J = g_at 126 73 [l0, l1, l2, l3, l4, l5, .int x] (.int x :: S) Z I J := gq_iload e_126_71 rfl
theorem e_126_73 : g_Pg 126 73 = ga_iload 3 74 := (congrFun pg_126 73).trans rfl
theorem q_126_73 {l0 l1 l2 l4 l5 l6 : Value} {x : Int32} {S : List Value} {Z : gZ} {I : gI} {J : gJ} : g_at 126 73 [l0, l1, l2, .int x, l4, l5, l6] S Z I J = g_at 126 74 [l0, l1, l2, .int x, l4, l5, l6] (.int x :: S) Z I J := gq_iload e_126_73 rfl
theorem e_126_74 : g_Pg 126 74 = ga_cmp (fun x y => decide (x ≤ y)) 82 77 := (congrFun pg_126 74).trans rfl
theorem q_126_74 {L : List Value} {x y : Int32} {S : List Value} {Z : gZ} {I : gI} {J : gJ} : g_at 126 74 L (.int y :: .int x :: S) Z I J = if x ≤ y then g_at 126 82 L S Z I J else g_at 126 77 L S Z I J := gq_cmp e_126_74 rfl
theorem e_126_77 : g_Pg 126 77 = ga_iload 5 79 := (congrFun pg_126 77).trans rfl
theorem q_126_77 {l0 l1 l2 l3 l4 l6 : Value} {x : Int32} {S : List Value} {Z : gZ} {I : gI} {J : gJ} : g_at 126 77 [l0, l1, l2, l3, l4, .int x, l6] S Z I J = g_at 126 79 [l0, l1, l2, l3, l4, .int x, l6] (.int x :: S) Z I J := gq_iload e_126_77 rfl
theorem e_126_79 : g_Pg 126 79 = ga_goto 84 := (congrFun pg_126 79).trans rfl
theorem q_126_79 {L : List Value} {S : List Value} {Z : gZ} {I : gI} {J : gJ} : g_at 126 79 L S Z I J = g_at 126 84 L S Z I J := gq_goto e_126_79
theorem e_126_82 : g_Pg 126 82 = ga_iload 4 84 := (congrFun pg_126 82).trans rfl
theorem q_126_82 {l0 l1 l2 l3 l5 l6 : Value} {x : Int32} {S : List Value} {Z : gZ} {I : gI} {J : gJ} : g_at 126 82 [l0, l1, l2, l3, .int x, l5, l6] S Z I J = g_at 126 84 [l0, l1, l2, l3, .int x, l5, l6] (.int x :: S) Z I J := gq_iload e_126_82 rfl
theorem e_126_84 : g_Pg 126 84 = ga_istore 4 86 := (congrFun pg_126 84).trans rfl
theorem q_126_84 {l0 l1 l2 l3 l4 l5 l6 : Value} {x : Int32} {S : List Value} {Z : gZ} {I : gI} {J : gJ} (h : gN1 l3 = true) : g_at 126 84 [l0, l1, l2, l3, l4, l5, l6] (.int x :: S) Z I J = g_at 126 86 [l0, l1, l2, l3, .int x, l5, l6] S Z I J := gq_istore e_126_84 h rfl rfl
theorem e_126_86 : g_Pg 126 86 = ga_iload 6 88 := (congrFun pg_126 86).trans rfl
theorem q_126_86 {l0 l1 l2 l3 l4 l5 : Value} {x : Int32} {S : List Value} {Z : gZ} {I : gI} {J : gJ} : g_at 126 86 [l0, l1, l2, l3, l4, l5, .int x] S Z I J = g_at 126 88 [l0, l1, l2, l3, l4, l5, .int x] (.int x :: S) Z I J := gq_iload e_126_86 rfl
theorem e_126_88 : g_Pg 126 88 = ga_iload 3 89 := (congrFun pg_126 88).trans rfl
theorem q_126_88 {l0 l1 l2 l4 l5 l6 : Value} {x : Int32} {S : List Value} {Z : gZ} {I : gI} {J : gJ} : g_at 126 88 [l0, l1, l2, .int x, l4, l5, l6] S Z I J = g_at 126 89 [l0, l1, l2, .int x, l4, l5, l6] (.int x :: S) Z I J := gq_iload e_126_88 rfl
theorem e_126_89 : g_Pg 126 89 = ga_cmp (fun x y => decide (x ≤ y)) 97 92 := (congrFun pg_126 89).trans rfl
theorem q_126_89 {L : List Value} {x y : Int32} {S : List Value} {Z : gZ} {I : gI} {J : gJ} : g_at 126 89 L (.int y :: .int x :: S) Z I J = if x ≤ y then g_at 126 97 L S Z I J else g_at 126 92 L S Z I J := gq_cmp e_126_89 rfl
theorem e_126_92 : g_Pg 126 92 = ga_iload 6 94 := (congrFun pg_126 92).trans rfl
theorem q_126_92 {l0 l1 l2 l3 l4 l5 : Value} {x : Int32} {S : List Value} {Z : gZ} {I : gI} {J : gJ} : g_at 126 92 [l0, l1, l2, l3, l4, l5, .int x] S Z I J = g_at 126 94 [l0, l1, l2, l3, l4, l5, .int x] (.int x :: S) Z I J := gq_iload e_126_92 rfl
theorem e_126_94 : g_Pg 126 94 = ga_goto 98 := (congrFun pg_126 94).trans rfl
theorem q_126_94 {L : List Value} {S : List Value} {Z : gZ} {I : gI} {J : gJ} : g_at 126 94 L S Z I J = g_at 126 98 L S Z I J := gq_goto e_126_94
theorem e_126_97 : g_Pg 126 97 = ga_iload 3 98 := (congrFun pg_126 97).trans rfl
theorem q_126_97 {l0 l1 l2 l4 l5 l6 : Value} {x : Int32} {S : List Value} {Z : gZ} {I : gI} {J : gJ} : g_at 126 97 [l0, l1, l2, .int x, l4, l5, l6] S Z I J = g_at 126 98 [l0, l1, l2, .int x, l4, l5, l6] (.int x :: S) Z I J := gq_iload e_126_97 rfl
theorem e_126_98 : g_Pg 126 98 = ga_istore 3 99 := (congrFun pg_126 98).trans rfl
theorem q_126_98 {l0 l1 l2 l3 l4 l5 l6 : Value} {x : Int32} {S : List Value} {Z : gZ} {I : gI} {J : gJ} (h : gN1 l2 = true) : g_at 126 98 [l0, l1, l2, l3, l4, l5, l6] (.int x :: S) Z I J = g_at 126 99 [l0, l1, l2, .int x, l4, l5, l6] S Z I J := gq_istore e_126_98 h rfl rfl
theorem e_126_99 : g_Pg 126 99 = ga_iinc 5 1 102 := (congrFun pg_126 99).trans rfl
theorem q_126_99 {l0 l1 l2 l3 l4 l6 : Value} {x : Int32} {S : List Value} {Z : gZ} {I : gI} {J : gJ} (h : gN1 l4 = true) : g_at 126 99 [l0, l1, l2, l3, l4, .int x, l6] S Z I J = g_at 126 102 [l0, l1, l2, l3, l4, .int (x + 1), l6] S Z I J := gq_iinc e_126_99 rfl h rfl
theorem e_126_102 : g_Pg 126 102 = ga_goto 38 := (congrFun pg_126 102).trans rfl
theorem q_126_102 {L : List Value} {S : List Value} {Z : gZ} {I : gI} {J : gJ} : g_at 126 102 L S Z I J = g_at 126 38 L S Z I J := gq_goto e_126_102
theorem e_126_105 : g_Pg 126 105 = ga_iload 4 107 := (congrFun pg_126 105).trans rfl
theorem q_126_105 {l0 l1 l2 l3 l5 l6 : Value} {x : Int32} {S : List Value} {Z : gZ} {I : gI} {J : gJ} : g_at 126 105 [l0, l1, l2, l3, .int x, l5, l6] S Z I J = g_at 126 107 [l0, l1, l2, l3, .int x, l5, l6] (.int x :: S) Z I J := gq_iload e_126_105 rfl
theorem e_126_107 : g_Pg 126 107 = ga_push (.int (-1)) 108 := (congrFun pg_126 107).trans rfl
theorem q_126_107 {L : List Value} {S : List Value} {Z : gZ} {I : gI} {J : gJ} : g_at 126 107 L S Z I J = g_at 126 108 L (.int (-1) :: S) Z I J := gq_push e_126_107
theorem e_126_108 : g_Pg 126 108 = ga_cmp (fun x y => decide (x = y)) 115 111 := (congrFun pg_126 108).trans rfl
theorem q_126_108 {L : List Value} {x y : Int32} {S : List Value} {Z : gZ} {I : gI} {J : gJ} : g_at 126 108 L (.int y :: .int x :: S) Z I J = if x = y then g_at 126 115 L S Z I J else g_at 126 111 L S Z I J := gq_cmp e_126_108 rfl
theorem e_126_111 : g_Pg 126 111 = ga_iload 2 112 := (congrFun pg_126 111).trans rfl
theorem q_126_111 {l0 l1 l3 l4 l5 l6 : Value} {x : Int32} {S : List Value} {Z : gZ} {I : gI} {J : gJ} : g_at 126 111 [l0, l1, .int x, l3, l4, l5, l6] S Z I J = g_at 126 112 [l0, l1, .int x, l3, l4, l5, l6] (.int x :: S) Z I J := gq_iload e_126_111 rfl
theorem e_126_112 : g_Pg 126 112 = ga_if (fun x => decide (¬ x = 0)) 120 115 := (congrFun pg_126 112).trans rfl
theorem q_126_112 {L : List Value} {x : Int32} {S : List Value} {Z : gZ} {I : gI} {J : gJ} : g_at 126 112 L (.int x :: S) Z I J = if ¬ x = 0 then g_at 126 120 L S Z I J else g_at 126 115 L S Z I J := gq_if e_126_112 rfl
theorem e_126_115 : g_Pg 126 115 = ga_iload 4 117 := (congrFun pg_126 115).trans rfl
theorem q_126_115 {l0 l1 l2 l3 l5 l6 : Value} {x : Int32} {S : List Value} {Z : gZ} {I : gI} {J : gJ} : g_at 126 115 [l0, l1, l2, l3, .int x, l5, l6] S Z I J = g_at 126 117 [l0, l1, l2, l3, .int x, l5, l6] (.int x :: S) Z I J := gq_iload e_126_115 rfl
theorem e_126_117 : g_Pg 126 117 = ga_goto 121 := (congrFun pg_126 117).trans rfl
theorem q_126_117 {L : List Value} {S : List Value} {Z : gZ} {I : gI} {J : gJ} : g_at 126 117 L S Z I J = g_at 126 121 L S Z I J := gq_goto e_126_117
theorem e_126_120 : g_Pg 126 120 = ga_iload 3 121 := (congrFun pg_126 120).trans rfl
theorem q_126_120 {l0 l1 l2 l4 l5 l6 : Value} {x : Int32} {S : List Value} {Z : gZ} {I : gI} {J : gJ} : g_at 126 120 [l0, l1, l2, .int x, l4, l5, l6] S Z I J = g_at 126 121 [l0, l1, l2, .int x, l4, l5, l6] (.int x :: S) Z I J := gq_iload e_126_120 rfl
theorem e_126_121 : g_Pg 126 121 = ga_iret := (congrFun pg_126 121).trans rfl
theorem q_126_121 {L : List Value} {x : Int32} {Z : gZ} {I : gI} {J : gJ} : g_at 126 121 L [.int x] Z I J = some (some (.int x), Z, I, J) := gq_iret e_126_121
theorem e_127_0 : g_Pg 127 0 = ga_aload 0 1 := (congrFun pg_127 0).trans rfl
theorem q_127_0 {l1 l2 l3 l4 l5 l6 l7 l8 l9 : Value} {x : Nat} {S : List Value} {Z : gZ} {I : gI} {J : gJ} : g_at 127 0 [.ref x, l1, l2, l3, l4, l5, l6, l7, l8, l9] S Z I J = g_at 127 1 [.ref x, l1, l2, l3, l4, l5, l6, l7, l8, l9] (.ref x :: S) Z I J := gq_aload e_127_0 rfl
theorem e_127_1 : g_Pg 127 1 = ga_iload 1 2 := (congrFun pg_127 1).trans rfl
theorem q_127_1 {l0 l2 l3 l4 l5 l6 l7 l8 l9 : Value} {x : Int32} {S : List Value} {Z : gZ} {I : gI} {J : gJ} : g_at 127 1 [l0, .int x, l2, l3, l4, l5, l6, l7, l8, l9] S Z I J = g_at 127 2 [l0, .int x, l2, l3, l4, l5, l6, l7, l8, l9] (.int x :: S) Z I J := gq_iload e_127_1 rfl
theorem e_127_2 : g_Pg 127 2 = ga_callV 7 85 1 5 := (congrFun pg_127 2).trans rfl
theorem q_127_2 {L : List Value} {a0 : Int32} {a1 : Nat} {Z : gZ} {I : gI} {J : gJ} (h : (gKd Z a1).1 = 7) : g_at 127 2 L [.int a0, .ref a1] Z I J = (g_at 85 0 [.ref a1, .int a0] [] Z I J).bind (fun r => g_at 127 5 L (r.1.toList ++ []) r.2.1 r.2.2.1 r.2.2.2) := gq_callV e_127_2 rfl rfl h rfl rfl rfl rfl rfl
theorem e_127_5 : g_Pg 127 5 = ga_if (fun x => decide (x = 0)) 16 8 := (congrFun pg_127 5).trans rfl
theorem q_127_5 {L : List Value} {x : Int32} {S : List Value} {Z : gZ} {I : gI} {J : gJ} : g_at 127 5 L (.int x :: S) Z I J = if x = 0 then g_at 127 16 L S Z I J else g_at 127 8 L S Z I J := gq_if e_127_5 rfl
theorem e_127_8 : g_Pg 127 8 = ga_aload 0 9 := (congrFun pg_127 8).trans rfl
theorem q_127_8 {l1 l2 l3 l4 l5 l6 l7 l8 l9 : Value} {x : Nat} {S : List Value} {Z : gZ} {I : gI} {J : gJ} : g_at 127 8 [.ref x, l1, l2, l3, l4, l5, l6, l7, l8, l9] S Z I J = g_at 127 9 [.ref x, l1, l2, l3, l4, l5, l6, l7, l8, l9] (.ref x :: S) Z I J := gq_aload e_127_8 rfl
theorem e_127_9 : g_Pg 127 9 = ga_iload 2 10 := (congrFun pg_127 9).trans rfl
theorem q_127_9 {l0 l1 l3 l4 l5 l6 l7 l8 l9 : Value} {x : Int32} {S : List Value} {Z : gZ} {I : gI} {J : gJ} : g_at 127 9 [l0, l1, .int x, l3, l4, l5, l6, l7, l8, l9] S Z I J = g_at 127 10 [l0, l1, .int x, l3, l4, l5, l6, l7, l8, l9] (.int x :: S) Z I J := gq_iload e_127_9 rfl
theorem e_127_10 : g_Pg 127 10 = ga_callV 7 85 1 13 := (congrFun pg_127 10).trans rfl
theorem q_127_10 {L : List Value} {a0 : Int32} {a1 : Nat} {Z : gZ} {I : gI} {J : gJ} (h : (gKd Z a1).1 = 7) : g_at 127 10 L [.int a0, .ref a1] Z I J = (g_at 85 0 [.ref a1, .int a0] [] Z I J).bind (fun r => g_at 127 13 L (r.1.toList ++ []) r.2.1 r.2.2.1 r.2.2.2) := gq_callV e_127_10 rfl rfl h rfl rfl rfl rfl rfl
theorem e_127_13 : g_Pg 127 13 = ga_if (fun x => decide (¬ x = 0)) 19 16 := (congrFun pg_127 13).trans rfl
theorem q_127_13 {L : List Value} {x : Int32} {S : List Value} {Z : gZ} {I : gI} {J : gJ} : g_at 127 13 L (.int x :: S) Z I J = if ¬ x = 0 then g_at 127 19 L S Z I J else g_at 127 16 L S Z I J := gq_if e_127_13 rfl
theorem e_127_16 : g_Pg 127 16 = ga_push (.int (-2)) 18 := (congrFun pg_127 16).trans rfl
theorem q_127_16 {L : List Value} {S : List Value} {Z : gZ} {I : gI} {J : gJ} : g_at 127 16 L S Z I J = g_at 127 18 L (.int (-2) :: S) Z I J := gq_push e_127_16
theorem e_127_18 : g_Pg 127 18 = ga_iret := (congrFun pg_127 18).trans rfl
theorem q_127_18 {L : List Value} {x : Int32} {Z : gZ} {I : gI} {J : gJ} : g_at 127 18 L [.int x] Z I J = some (some (.int x), Z, I, J) := gq_iret e_127_18
theorem e_127_19 : g_Pg 127 19 = ga_iload 3 20 := (congrFun pg_127 19).trans rfl
theorem q_127_19 {l0 l1 l2 l4 l5 l6 l7 l8 l9 : Value} {x : Int32} {S : List Value} {Z : gZ} {I : gI} {J : gJ} : g_at 127 19 [l0, l1, l2, .int x, l4, l5, l6, l7, l8, l9] S Z I J = g_at 127 20 [l0, l1, l2, .int x, l4, l5, l6, l7, l8, l9] (.int x :: S) Z I J := gq_iload e_127_19 rfl
theorem e_127_20 : g_Pg 127 20 = ga_push (.int 0) 21 := (congrFun pg_127 20).trans rfl
theorem q_127_20 {L : List Value} {S : List Value} {Z : gZ} {I : gI} {J : gJ} : g_at 127 20 L S Z I J = g_at 127 21 L (.int 0 :: S) Z I J := gq_push e_127_20
theorem e_127_21 : g_Pg 127 21 = ga_push (.int 10) 23 := (congrFun pg_127 21).trans rfl
theorem q_127_21 {L : List Value} {S : List Value} {Z : gZ} {I : gI} {J : gJ} : g_at 127 21 L S Z I J = g_at 127 23 L (.int 10 :: S) Z I J := gq_push e_127_21
theorem e_127_23 : g_Pg 127 23 = ga_call 83 3 26 := (congrFun pg_127 23).trans rfl
theorem q_127_23 {L : List Value} {a0 : Int32} {a1 : Int32} {a2 : Int32} {Z : gZ} {I : gI} {J : gJ} : g_at 127 23 L [.int a0, .int a1, .int a2] Z I J = (g_at 83 0 [.int a2, .int a1, .int a0] [] Z I J).bind (fun r => g_at 127 26 L (r.1.toList ++ []) r.2.1 r.2.2.1 r.2.2.2) := gq_call e_127_23 rfl rfl rfl rfl rfl
theorem e_127_26 : g_Pg 127 26 = ga_if (fun x => decide (x = 0)) 39 29 := (congrFun pg_127 26).trans rfl
theorem q_127_26 {L : List Value} {x : Int32} {S : List Value} {Z : gZ} {I : gI} {J : gJ} : g_at 127 26 L (.int x :: S) Z I J = if x = 0 then g_at 127 39 L S Z I J else g_at 127 29 L S Z I J := gq_if e_127_26 rfl
theorem e_127_29 : g_Pg 127 29 = ga_iload 4 31 := (congrFun pg_127 29).trans rfl
theorem q_127_29 {l0 l1 l2 l3 l5 l6 l7 l8 l9 : Value} {x : Int32} {S : List Value} {Z : gZ} {I : gI} {J : gJ} : g_at 127 29 [l0, l1, l2, l3, .int x, l5, l6, l7, l8, l9] S Z I J = g_at 127 31 [l0, l1, l2, l3, .int x, l5, l6, l7, l8, l9] (.int x :: S) Z I J := gq_iload e_127_29 rfl
theorem e_127_31 : g_Pg 127 31 = ga_push (.int 0) 32 := (congrFun pg_127 31).trans rfl
theorem q_127_31 {L : List Value} {S : List Value} {Z : gZ} {I : gI} {J : gJ} : g_at 127 31 L S Z I J = g_at 127 32 L (.int 0 :: S) Z I J := gq_push e_127_31
theorem e_127_32 : g_Pg 127 32 = ga_push (.int 1) 33 := (congrFun pg_127 32).trans rfl
theorem q_127_32 {L : List Value} {S : List Value} {Z : gZ} {I : gI} {J : gJ} : g_at 127 32 L S Z I J = g_at 127 33 L (.int 1 :: S) Z I J := gq_push e_127_32
theorem e_127_33 : g_Pg 127 33 = ga_call 83 3 36 := (congrFun pg_127 33).trans rfl
theorem q_127_33 {L : List Value} {a0 : Int32} {a1 : Int32} {a2 : Int32} {Z : gZ} {I : gI} {J : gJ} : g_at 127 33 L [.int a0, .int a1, .int a2] Z I J = (g_at 83 0 [.int a2, .int a1, .int a0] [] Z I J).bind (fun r => g_at 127 36 L (r.1.toList ++ []) r.2.1 r.2.2.1 r.2.2.2) := gq_call e_127_33 rfl rfl rfl rfl rfl
theorem e_127_36 : g_Pg 127 36 = ga_if (fun x => decide (¬ x = 0)) 42 39 := (congrFun pg_127 36).trans rfl
theorem q_127_36 {L : List Value} {x : Int32} {S : List Value} {Z : gZ} {I : gI} {J : gJ} : g_at 127 36 L (.int x :: S) Z I J = if ¬ x = 0 then g_at 127 42 L S Z I J else g_at 127 39 L S Z I J := gq_if e_127_36 rfl
theorem e_127_39 : g_Pg 127 39 = ga_push (.int (-3)) 41 := (congrFun pg_127 39).trans rfl
theorem q_127_39 {L : List Value} {S : List Value} {Z : gZ} {I : gI} {J : gJ} : g_at 127 39 L S Z I J = g_at 127 41 L (.int (-3) :: S) Z I J := gq_push e_127_39
theorem e_127_41 : g_Pg 127 41 = ga_iret := (congrFun pg_127 41).trans rfl
theorem q_127_41 {L : List Value} {x : Int32} {Z : gZ} {I : gI} {J : gJ} : g_at 127 41 L [.int x] Z I J = some (some (.int x), Z, I, J) := gq_iret e_127_41
theorem e_127_42 : g_Pg 127 42 = ga_aload 0 43 := (congrFun pg_127 42).trans rfl
theorem q_127_42 {l1 l2 l3 l4 l5 l6 l7 l8 l9 : Value} {x : Nat} {S : List Value} {Z : gZ} {I : gI} {J : gJ} : g_at 127 42 [.ref x, l1, l2, l3, l4, l5, l6, l7, l8, l9] S Z I J = g_at 127 43 [.ref x, l1, l2, l3, l4, l5, l6, l7, l8, l9] (.ref x :: S) Z I J := gq_aload e_127_42 rfl
theorem e_127_43 : g_Pg 127 43 = ga_iload 1 44 := (congrFun pg_127 43).trans rfl
theorem q_127_43 {l0 l2 l3 l4 l5 l6 l7 l8 l9 : Value} {x : Int32} {S : List Value} {Z : gZ} {I : gI} {J : gJ} : g_at 127 43 [l0, .int x, l2, l3, l4, l5, l6, l7, l8, l9] S Z I J = g_at 127 44 [l0, .int x, l2, l3, l4, l5, l6, l7, l8, l9] (.int x :: S) Z I J := gq_iload e_127_43 rfl
theorem e_127_44 : g_Pg 127 44 = ga_iload 2 45 := (congrFun pg_127 44).trans rfl
theorem q_127_44 {l0 l1 l3 l4 l5 l6 l7 l8 l9 : Value} {x : Int32} {S : List Value} {Z : gZ} {I : gI} {J : gJ} : g_at 127 44 [l0, l1, .int x, l3, l4, l5, l6, l7, l8, l9] S Z I J = g_at 127 45 [l0, l1, .int x, l3, l4, l5, l6, l7, l8, l9] (.int x :: S) Z I J := gq_iload e_127_44 rfl
theorem e_127_45 : g_Pg 127 45 = ga_callV 7 113 2 48 := (congrFun pg_127 45).trans rfl
theorem q_127_45 {L : List Value} {a0 : Int32} {a1 : Int32} {a2 : Nat} {Z : gZ} {I : gI} {J : gJ} (h : (gKd Z a2).1 = 7) : g_at 127 45 L [.int a0, .int a1, .ref a2] Z I J = (g_at 113 0 [.ref a2, .int a1, .int a0, .null, .null, .null, .null] [] Z I J).bind (fun r => g_at 127 48 L (r.1.toList ++ []) r.2.1 r.2.2.1 r.2.2.2) := gq_callV e_127_45 rfl rfl h rfl rfl rfl rfl rfl
theorem e_127_48 : g_Pg 127 48 = ga_push (.int (-1)) 49 := (congrFun pg_127 48).trans rfl
theorem q_127_48 {L : List Value} {S : List Value} {Z : gZ} {I : gI} {J : gJ} : g_at 127 48 L S Z I J = g_at 127 49 L (.int (-1) :: S) Z I J := gq_push e_127_48
theorem e_127_49 : g_Pg 127 49 = ga_cmp (fun x y => decide (¬ x = y)) 55 52 := (congrFun pg_127 49).trans rfl
theorem q_127_49 {L : List Value} {x y : Int32} {S : List Value} {Z : gZ} {I : gI} {J : gJ} : g_at 127 49 L (.int y :: .int x :: S) Z I J = if ¬ x = y then g_at 127 55 L S Z I J else g_at 127 52 L S Z I J := gq_cmp e_127_49 rfl
theorem e_127_52 : g_Pg 127 52 = ga_iload 4 54 := (congrFun pg_127 52).trans rfl
theorem q_127_52 {l0 l1 l2 l3 l5 l6 l7 l8 l9 : Value} {x : Int32} {S : List Value} {Z : gZ} {I : gI} {J : gJ} : g_at 127 52 [l0, l1, l2, l3, .int x, l5, l6, l7, l8, l9] S Z I J = g_at 127 54 [l0, l1, l2, l3, .int x, l5, l6, l7, l8, l9] (.int x :: S) Z I J := gq_iload e_127_52 rfl
theorem e_127_54 : g_Pg 127 54 = ga_iret := (congrFun pg_127 54).trans rfl
theorem q_127_54 {L : List Value} {x : Int32} {Z : gZ} {I : gI} {J : gJ} : g_at 127 54 L [.int x] Z I J = some (some (.int x), Z, I, J) := gq_iret e_127_54
theorem e_127_55 : g_Pg 127 55 = ga_push (.int 1) 56 := (congrFun pg_127 55).trans rfl
theorem q_127_55 {L : List Value} {S : List Value} {Z : gZ} {I : gI} {J : gJ} : g_at 127 55 L S Z I J = g_at 127 56 L (.int 1 :: S) Z I J := gq_push e_127_55
theorem e_127_56 : g_Pg 127 56 = ga_istore 5 58 := (congrFun pg_127 56).trans rfl
theorem q_127_56 {l0 l1 l2 l3 l4 l5 l6 l7 l8 l9 : Value} {x : Int32} {S : List Value} {Z : gZ} {I : gI} {J : gJ} (h : gN1 l4 = true) : g_at 127 56 [l0, l1, l2, l3, l4, l5, l6, l7, l8, l9] (.int x :: S) Z I J = g_at 127 58 [l0, l1, l2, l3, l4, .int x, l6, l7, l8, l9] S Z I J := gq_istore e_127_56 h rfl rfl
theorem e_127_58 : g_Pg 127 58 = ga_push (.int 1) 59 := (congrFun pg_127 58).trans rfl
theorem q_127_58 {L : List Value} {S : List Value} {Z : gZ} {I : gI} {J : gJ} : g_at 127 58 L S Z I J = g_at 127 59 L (.int 1 :: S) Z I J := gq_push e_127_58
theorem e_127_59 : g_Pg 127 59 = ga_istore 6 61 := (congrFun pg_127 59).trans rfl
theorem q_127_59 {l0 l1 l2 l3 l4 l5 l6 l7 l8 l9 : Value} {x : Int32} {S : List Value} {Z : gZ} {I : gI} {J : gJ} (h : gN1 l5 = true) : g_at 127 59 [l0, l1, l2, l3, l4, l5, l6, l7, l8, l9] (.int x :: S) Z I J = g_at 127 61 [l0, l1, l2, l3, l4, l5, .int x, l7, l8, l9] S Z I J := gq_istore e_127_59 h rfl rfl
theorem e_127_61 : g_Pg 127 61 = ga_iload 2 62 := (congrFun pg_127 61).trans rfl
theorem q_127_61 {l0 l1 l3 l4 l5 l6 l7 l8 l9 : Value} {x : Int32} {S : List Value} {Z : gZ} {I : gI} {J : gJ} : g_at 127 61 [l0, l1, .int x, l3, l4, l5, l6, l7, l8, l9] S Z I J = g_at 127 62 [l0, l1, .int x, l3, l4, l5, l6, l7, l8, l9] (.int x :: S) Z I J := gq_iload e_127_61 rfl
theorem e_127_62 : g_Pg 127 62 = ga_istore 7 64 := (congrFun pg_127 62).trans rfl
theorem q_127_62 {l0 l1 l2 l3 l4 l5 l6 l7 l8 l9 : Value} {x : Int32} {S : List Value} {Z : gZ} {I : gI} {J : gJ} (h : gN1 l6 = true) : g_at 127 62 [l0, l1, l2, l3, l4, l5, l6, l7, l8, l9] (.int x :: S) Z I J = g_at 127 64 [l0, l1, l2, l3, l4, l5, l6, .int x, l8, l9] S Z I J := gq_istore e_127_62 h rfl rfl
theorem e_127_64 : g_Pg 127 64 = ga_iload 7 66 := (congrFun pg_127 64).trans rfl
theorem q_127_64 {l0 l1 l2 l3 l4 l5 l6 l8 l9 : Value} {x : Int32} {S : List Value} {Z : gZ} {I : gI} {J : gJ} : g_at 127 64 [l0, l1, l2, l3, l4, l5, l6, .int x, l8, l9] S Z I J = g_at 127 66 [l0, l1, l2, l3, l4, l5, l6, .int x, l8, l9] (.int x :: S) Z I J := gq_iload e_127_64 rfl
theorem e_127_66 : g_Pg 127 66 = ga_iload 1 67 := (congrFun pg_127 66).trans rfl
theorem q_127_66 {l0 l2 l3 l4 l5 l6 l7 l8 l9 : Value} {x : Int32} {S : List Value} {Z : gZ} {I : gI} {J : gJ} : g_at 127 66 [l0, .int x, l2, l3, l4, l5, l6, l7, l8, l9] S Z I J = g_at 127 67 [l0, .int x, l2, l3, l4, l5, l6, l7, l8, l9] (.int x :: S) Z I J := gq_iload e_127_66 rfl
theorem e_127_67 : g_Pg 127 67 = ga_cmp (fun x y => decide (x = y)) 98 70 := (congrFun pg_127 67).trans rfl
theorem q_127_67 {L : List Value} {x y : Int32} {S : List Value} {Z : gZ} {I : gI} {J : gJ} : g_at 127 67 L (.int y :: .int x :: S) Z I J = if x = y then g_at 127 98 L S Z I J else g_at 127 70 L S Z I J := gq_cmp e_127_67 rfl
theorem e_127_70 : g_Pg 127 70 = ga_iload 5 72 := (congrFun pg_127 70).trans rfl
theorem q_127_70 {l0 l1 l2 l3 l4 l6 l7 l8 l9 : Value} {x : Int32} {S : List Value} {Z : gZ} {I : gI} {J : gJ} : g_at 127 70 [l0, l1, l2, l3, l4, .int x, l6, l7, l8, l9] S Z I J = g_at 127 72 [l0, l1, l2, l3, l4, .int x, l6, l7, l8, l9] (.int x :: S) Z I J := gq_iload e_127_70 rfl
theorem e_127_72 : g_Pg 127 72 = ga_push (.int 10) 74 := (congrFun pg_127 72).trans rfl
theorem q_127_72 {L : List Value} {S : List Value} {Z : gZ} {I : gI} {J : gJ} : g_at 127 72 L S Z I J = g_at 127 74 L (.int 10 :: S) Z I J := gq_push e_127_72
theorem e_127_74 : g_Pg 127 74 = ga_iload 3 75 := (congrFun pg_127 74).trans rfl
theorem q_127_74 {l0 l1 l2 l4 l5 l6 l7 l8 l9 : Value} {x : Int32} {S : List Value} {Z : gZ} {I : gI} {J : gJ} : g_at 127 74 [l0, l1, l2, .int x, l4, l5, l6, l7, l8, l9] S Z I J = g_at 127 75 [l0, l1, l2, .int x, l4, l5, l6, l7, l8, l9] (.int x :: S) Z I J := gq_iload e_127_74 rfl
theorem e_127_75 : g_Pg 127 75 = ga_bin (fun x y => x - y) 76 := (congrFun pg_127 75).trans rfl
theorem q_127_75 {L : List Value} {x y : Int32} {S : List Value} {Z : gZ} {I : gI} {J : gJ} : g_at 127 75 L (.int y :: .int x :: S) Z I J = g_at 127 76 L (.int (x - y) :: S) Z I J := gq_bin e_127_75
theorem e_127_76 : g_Pg 127 76 = ga_bin (fun x y => x * y) 77 := (congrFun pg_127 76).trans rfl
theorem q_127_76 {L : List Value} {x y : Int32} {S : List Value} {Z : gZ} {I : gI} {J : gJ} : g_at 127 76 L (.int y :: .int x :: S) Z I J = g_at 127 77 L (.int (x * y) :: S) Z I J := gq_bin e_127_76
theorem e_127_77 : g_Pg 127 77 = ga_istore 5 79 := (congrFun pg_127 77).trans rfl
theorem q_127_77 {l0 l1 l2 l3 l4 l5 l6 l7 l8 l9 : Value} {x : Int32} {S : List Value} {Z : gZ} {I : gI} {J : gJ} (h : gN1 l4 = true) : g_at 127 77 [l0, l1, l2, l3, l4, l5, l6, l7, l8, l9] (.int x :: S) Z I J = g_at 127 79 [l0, l1, l2, l3, l4, .int x, l6, l7, l8, l9] S Z I J := gq_istore e_127_77 h rfl rfl
theorem e_127_79 : g_Pg 127 79 = ga_iload 6 81 := (congrFun pg_127 79).trans rfl
theorem q_127_79 {l0 l1 l2 l3 l4 l5 l7 l8 l9 : Value} {x : Int32} {S : List Value} {Z : gZ} {I : gI} {J : gJ} : g_at 127 79 [l0, l1, l2, l3, l4, l5, .int x, l7, l8, l9] S Z I J = g_at 127 81 [l0, l1, l2, l3, l4, l5, .int x, l7, l8, l9] (.int x :: S) Z I J := gq_iload e_127_79 rfl
theorem e_127_81 : g_Pg 127 81 = ga_push (.int 10) 83 := (congrFun pg_127 81).trans rfl
theorem q_127_81 {L : List Value} {S : List Value} {Z : gZ} {I : gI} {J : gJ} : g_at 127 81 L S Z I J = g_at 127 83 L (.int 10 :: S) Z I J := gq_push e_127_81
theorem e_127_83 : g_Pg 127 83 = ga_bin (fun x y => x * y) 84 := (congrFun pg_127 83).trans rfl
theorem q_127_83 {L : List Value} {x y : Int32} {S : List Value} {Z : gZ} {I : gI} {J : gJ} : g_at 127 83 L (.int y :: .int x :: S) Z I J = g_at 127 84 L (.int (x * y) :: S) Z I J := gq_bin e_127_83
theorem e_127_84 : g_Pg 127 84 = ga_istore 6 86 := (congrFun pg_127 84).trans rfl
theorem q_127_84 {l0 l1 l2 l3 l4 l5 l6 l7 l8 l9 : Value} {x : Int32} {S : List Value} {Z : gZ} {I : gI} {J : gJ} (h : gN1 l5 = true) : g_at 127 84 [l0, l1, l2, l3, l4, l5, l6, l7, l8, l9] (.int x :: S) Z I J = g_at 127 86 [l0, l1, l2, l3, l4, l5, .int x, l7, l8, l9] S Z I J := gq_istore e_127_84 h rfl rfl
theorem e_127_86 : g_Pg 127 86 = ga_aload 0 87 := (congrFun pg_127 86).trans rfl
theorem q_127_86 {l1 l2 l3 l4 l5 l6 l7 l8 l9 : Value} {x : Nat} {S : List Value} {Z : gZ} {I : gI} {J : gJ} : g_at 127 86 [.ref x, l1, l2, l3, l4, l5, l6, l7, l8, l9] S Z I J = g_at 127 87 [.ref x, l1, l2, l3, l4, l5, l6, l7, l8, l9] (.ref x :: S) Z I J := gq_aload e_127_86 rfl
theorem e_127_87 : g_Pg 127 87 = ga_getR 7 1 90 := (congrFun pg_127 87).trans rfl
theorem q_127_87 {L : List Value} {a : Nat} {S : List Value} {Z : gZ} {I : gI} {J : gJ} (h : (gKd Z a).1 = 7) (h1 : gRs Z a 1 = true) : g_at 127 87 L (.ref a :: S) Z I J = g_at 127 90 L (.ref (gRq Z a 1) :: S) Z I J := gq_getR e_127_87 h h1
theorem e_127_90 : g_Pg 127 90 = ga_iload 7 92 := (congrFun pg_127 90).trans rfl
theorem q_127_90 {l0 l1 l2 l3 l4 l5 l6 l8 l9 : Value} {x : Int32} {S : List Value} {Z : gZ} {I : gI} {J : gJ} : g_at 127 90 [l0, l1, l2, l3, l4, l5, l6, .int x, l8, l9] S Z I J = g_at 127 92 [l0, l1, l2, l3, l4, l5, l6, .int x, l8, l9] (.int x :: S) Z I J := gq_iload e_127_90 rfl
theorem e_127_92 : g_Pg 127 92 = ga_iald 93 := (congrFun pg_127 92).trans rfl
theorem q_127_92 {L : List Value} {a : Nat} {i : Int32} {S : List Value} {Z : gZ} {I : gI} {J : gJ} (h : gTg8 (gKd Z a).1 a = true) (h0 : 0 ≤ i) (h1 : i.toNatClampNeg < (gKd Z a).2) : g_at 127 92 L (.int i :: .ref a :: S) Z I J = g_at 127 93 L (.int (I a i.toNatClampNeg) :: S) Z I J := gq_iald e_127_92 h h0 h1
theorem e_127_93 : g_Pg 127 93 = ga_istore 7 95 := (congrFun pg_127 93).trans rfl
theorem q_127_93 {l0 l1 l2 l3 l4 l5 l6 l7 l8 l9 : Value} {x : Int32} {S : List Value} {Z : gZ} {I : gI} {J : gJ} (h : gN1 l6 = true) : g_at 127 93 [l0, l1, l2, l3, l4, l5, l6, l7, l8, l9] (.int x :: S) Z I J = g_at 127 95 [l0, l1, l2, l3, l4, l5, l6, .int x, l8, l9] S Z I J := gq_istore e_127_93 h rfl rfl
theorem e_127_95 : g_Pg 127 95 = ga_goto 64 := (congrFun pg_127 95).trans rfl
theorem q_127_95 {L : List Value} {S : List Value} {Z : gZ} {I : gI} {J : gJ} : g_at 127 95 L S Z I J = g_at 127 64 L S Z I J := gq_goto e_127_95
theorem e_127_98 : g_Pg 127 98 = ga_iload 5 100 := (congrFun pg_127 98).trans rfl
theorem q_127_98 {l0 l1 l2 l3 l4 l6 l7 l8 l9 : Value} {x : Int32} {S : List Value} {Z : gZ} {I : gI} {J : gJ} : g_at 127 98 [l0, l1, l2, l3, l4, .int x, l6, l7, l8, l9] S Z I J = g_at 127 100 [l0, l1, l2, l3, l4, .int x, l6, l7, l8, l9] (.int x :: S) Z I J := gq_iload e_127_98 rfl
theorem e_127_100 : g_Pg 127 100 = ga_istore 7 102 := (congrFun pg_127 100).trans rfl
theorem q_127_100 {l0 l1 l2 l3 l4 l5 l6 l7 l8 l9 : Value} {x : Int32} {S : List Value} {Z : gZ} {I : gI} {J : gJ} (h : gN1 l6 = true) : g_at 127 100 [l0, l1, l2, l3, l4, l5, l6, l7, l8, l9] (.int x :: S) Z I J = g_at 127 102 [l0, l1, l2, l3, l4, l5, l6, .int x, l8, l9] S Z I J := gq_istore e_127_100 h rfl rfl
theorem e_127_102 : g_Pg 127 102 = ga_iload 6 104 := (congrFun pg_127 102).trans rfl
theorem q_127_102 {l0 l1 l2 l3 l4 l5 l7 l8 l9 : Value} {x : Int32} {S : List Value} {Z : gZ} {I : gI} {J : gJ} : g_at 127 102 [l0, l1, l2, l3, l4, l5, .int x, l7, l8, l9] S Z I J = g_at 127 104 [l0, l1, l2, l3, l4, l5, .int x, l7, l8, l9] (.int x :: S) Z I J := gq_iload e_127_102 rfl
theorem e_127_104 : g_Pg 127 104 = ga_istore 8 106 := (congrFun pg_127 104).trans rfl
theorem q_127_104 {l0 l1 l2 l3 l4 l5 l6 l7 l8 l9 : Value} {x : Int32} {S : List Value} {Z : gZ} {I : gI} {J : gJ} (h : gN1 l7 = true) : g_at 127 104 [l0, l1, l2, l3, l4, l5, l6, l7, l8, l9] (.int x :: S) Z I J = g_at 127 106 [l0, l1, l2, l3, l4, l5, l6, l7, .int x, l9] S Z I J := gq_istore e_127_104 h rfl rfl
theorem e_127_106 : g_Pg 127 106 = ga_iload 8 108 := (congrFun pg_127 106).trans rfl
theorem q_127_106 {l0 l1 l2 l3 l4 l5 l6 l7 l9 : Value} {x : Int32} {S : List Value} {Z : gZ} {I : gI} {J : gJ} : g_at 127 106 [l0, l1, l2, l3, l4, l5, l6, l7, .int x, l9] S Z I J = g_at 127 108 [l0, l1, l2, l3, l4, l5, l6, l7, .int x, l9] (.int x :: S) Z I J := gq_iload e_127_106 rfl
theorem e_127_108 : g_Pg 127 108 = ga_if (fun x => decide (x ≤ 0)) 129 111 := (congrFun pg_127 108).trans rfl
theorem q_127_108 {L : List Value} {x : Int32} {S : List Value} {Z : gZ} {I : gI} {J : gJ} : g_at 127 108 L (.int x :: S) Z I J = if x ≤ 0 then g_at 127 129 L S Z I J else g_at 127 111 L S Z I J := gq_if e_127_108 rfl
theorem e_127_111 : g_Pg 127 111 = ga_iload 7 113 := (congrFun pg_127 111).trans rfl
theorem q_127_111 {l0 l1 l2 l3 l4 l5 l6 l8 l9 : Value} {x : Int32} {S : List Value} {Z : gZ} {I : gI} {J : gJ} : g_at 127 111 [l0, l1, l2, l3, l4, l5, l6, .int x, l8, l9] S Z I J = g_at 127 113 [l0, l1, l2, l3, l4, l5, l6, .int x, l8, l9] (.int x :: S) Z I J := gq_iload e_127_111 rfl
theorem e_127_113 : g_Pg 127 113 = ga_iload 8 115 := (congrFun pg_127 113).trans rfl
theorem q_127_113 {l0 l1 l2 l3 l4 l5 l6 l7 l9 : Value} {x : Int32} {S : List Value} {Z : gZ} {I : gI} {J : gJ} : g_at 127 113 [l0, l1, l2, l3, l4, l5, l6, l7, .int x, l9] S Z I J = g_at 127 115 [l0, l1, l2, l3, l4, l5, l6, l7, .int x, l9] (.int x :: S) Z I J := gq_iload e_127_113 rfl
theorem e_127_115 : g_Pg 127 115 = ga_div (fun x y => x - x / y * y) 116 := (congrFun pg_127 115).trans rfl
theorem q_127_115 {L : List Value} {x y : Int32} {S : List Value} {Z : gZ} {I : gI} {J : gJ} (h : ¬ y = 0) : g_at 127 115 L (.int y :: .int x :: S) Z I J = g_at 127 116 L (.int (x - x / y * y) :: S) Z I J := gq_div e_127_115 h
theorem e_127_116 : g_Pg 127 116 = ga_istore 9 118 := (congrFun pg_127 116).trans rfl
theorem q_127_116 {l0 l1 l2 l3 l4 l5 l6 l7 l8 l9 : Value} {x : Int32} {S : List Value} {Z : gZ} {I : gI} {J : gJ} (h : gN1 l8 = true) : g_at 127 116 [l0, l1, l2, l3, l4, l5, l6, l7, l8, l9] (.int x :: S) Z I J = g_at 127 118 [l0, l1, l2, l3, l4, l5, l6, l7, l8, .int x] S Z I J := gq_istore e_127_116 h rfl rfl
theorem e_127_118 : g_Pg 127 118 = ga_iload 8 120 := (congrFun pg_127 118).trans rfl
theorem q_127_118 {l0 l1 l2 l3 l4 l5 l6 l7 l9 : Value} {x : Int32} {S : List Value} {Z : gZ} {I : gI} {J : gJ} : g_at 127 118 [l0, l1, l2, l3, l4, l5, l6, l7, .int x, l9] S Z I J = g_at 127 120 [l0, l1, l2, l3, l4, l5, l6, l7, .int x, l9] (.int x :: S) Z I J := gq_iload e_127_118 rfl
theorem e_127_120 : g_Pg 127 120 = ga_istore 7 122 := (congrFun pg_127 120).trans rfl
theorem q_127_120 {l0 l1 l2 l3 l4 l5 l6 l7 l8 l9 : Value} {x : Int32} {S : List Value} {Z : gZ} {I : gI} {J : gJ} (h : gN1 l6 = true) : g_at 127 120 [l0, l1, l2, l3, l4, l5, l6, l7, l8, l9] (.int x :: S) Z I J = g_at 127 122 [l0, l1, l2, l3, l4, l5, l6, .int x, l8, l9] S Z I J := gq_istore e_127_120 h rfl rfl
theorem e_127_122 : g_Pg 127 122 = ga_iload 9 124 := (congrFun pg_127 122).trans rfl
theorem q_127_122 {l0 l1 l2 l3 l4 l5 l6 l7 l8 : Value} {x : Int32} {S : List Value} {Z : gZ} {I : gI} {J : gJ} : g_at 127 122 [l0, l1, l2, l3, l4, l5, l6, l7, l8, .int x] S Z I J = g_at 127 124 [l0, l1, l2, l3, l4, l5, l6, l7, l8, .int x] (.int x :: S) Z I J := gq_iload e_127_122 rfl
theorem e_127_124 : g_Pg 127 124 = ga_istore 8 126 := (congrFun pg_127 124).trans rfl
theorem q_127_124 {l0 l1 l2 l3 l4 l5 l6 l7 l8 l9 : Value} {x : Int32} {S : List Value} {Z : gZ} {I : gI} {J : gJ} (h : gN1 l7 = true) : g_at 127 124 [l0, l1, l2, l3, l4, l5, l6, l7, l8, l9] (.int x :: S) Z I J = g_at 127 126 [l0, l1, l2, l3, l4, l5, l6, l7, .int x, l9] S Z I J := gq_istore e_127_124 h rfl rfl
theorem e_127_126 : g_Pg 127 126 = ga_goto 106 := (congrFun pg_127 126).trans rfl
theorem q_127_126 {L : List Value} {S : List Value} {Z : gZ} {I : gI} {J : gJ} : g_at 127 126 L S Z I J = g_at 127 106 L S Z I J := gq_goto e_127_126
theorem e_127_129 : g_Pg 127 129 = ga_iload 4 131 := (congrFun pg_127 129).trans rfl
theorem q_127_129 {l0 l1 l2 l3 l5 l6 l7 l8 l9 : Value} {x : Int32} {S : List Value} {Z : gZ} {I : gI} {J : gJ} : g_at 127 129 [l0, l1, l2, l3, .int x, l5, l6, l7, l8, l9] S Z I J = g_at 127 131 [l0, l1, l2, l3, .int x, l5, l6, l7, l8, l9] (.int x :: S) Z I J := gq_iload e_127_129 rfl
theorem e_127_131 : g_Pg 127 131 = ga_if (fun x => decide (¬ x = 0)) 139 134 := (congrFun pg_127 131).trans rfl
theorem q_127_131 {L : List Value} {x : Int32} {S : List Value} {Z : gZ} {I : gI} {J : gJ} : g_at 127 131 L (.int x :: S) Z I J = if ¬ x = 0 then g_at 127 139 L S Z I J else g_at 127 134 L S Z I J := gq_if e_127_131 rfl
theorem e_127_134 : g_Pg 127 134 = ga_iload 5 136 := (congrFun pg_127 134).trans rfl
theorem q_127_134 {l0 l1 l2 l3 l4 l6 l7 l8 l9 : Value} {x : Int32} {S : List Value} {Z : gZ} {I : gI} {J : gJ} : g_at 127 134 [l0, l1, l2, l3, l4, .int x, l6, l7, l8, l9] S Z I J = g_at 127 136 [l0, l1, l2, l3, l4, .int x, l6, l7, l8, l9] (.int x :: S) Z I J := gq_iload e_127_134 rfl
theorem e_127_136 : g_Pg 127 136 = ga_goto 141 := (congrFun pg_127 136).trans rfl
theorem q_127_136 {L : List Value} {S : List Value} {Z : gZ} {I : gI} {J : gJ} : g_at 127 136 L S Z I J = g_at 127 141 L S Z I J := gq_goto e_127_136
theorem e_127_139 : g_Pg 127 139 = ga_iload 6 141 := (congrFun pg_127 139).trans rfl
theorem q_127_139 {l0 l1 l2 l3 l4 l5 l7 l8 l9 : Value} {x : Int32} {S : List Value} {Z : gZ} {I : gI} {J : gJ} : g_at 127 139 [l0, l1, l2, l3, l4, l5, .int x, l7, l8, l9] S Z I J = g_at 127 141 [l0, l1, l2, l3, l4, l5, .int x, l7, l8, l9] (.int x :: S) Z I J := gq_iload e_127_139 rfl
theorem e_127_141 : g_Pg 127 141 = ga_iload 7 143 := (congrFun pg_127 141).trans rfl
theorem q_127_141 {l0 l1 l2 l3 l4 l5 l6 l8 l9 : Value} {x : Int32} {S : List Value} {Z : gZ} {I : gI} {J : gJ} : g_at 127 141 [l0, l1, l2, l3, l4, l5, l6, .int x, l8, l9] S Z I J = g_at 127 143 [l0, l1, l2, l3, l4, l5, l6, .int x, l8, l9] (.int x :: S) Z I J := gq_iload e_127_141 rfl
theorem e_127_143 : g_Pg 127 143 = ga_div (fun x y => x / y) 144 := (congrFun pg_127 143).trans rfl
theorem q_127_143 {L : List Value} {x y : Int32} {S : List Value} {Z : gZ} {I : gI} {J : gJ} (h : ¬ y = 0) : g_at 127 143 L (.int y :: .int x :: S) Z I J = g_at 127 144 L (.int (x / y) :: S) Z I J := gq_div e_127_143 h
theorem e_127_144 : g_Pg 127 144 = ga_iret := (congrFun pg_127 144).trans rfl
theorem q_127_144 {L : List Value} {x : Int32} {Z : gZ} {I : gI} {J : gJ} : g_at 127 144 L [.int x] Z I J = some (some (.int x), Z, I, J) := gq_iret e_127_144
theorem e_128_0 : g_Pg 128 0 = ga_aload 0 1 := (congrFun pg_128 0).trans rfl
theorem q_128_0 {l1 l2 : Value} {x : Nat} {S : List Value} {Z : gZ} {I : gI} {J : gJ} : g_at 128 0 [.ref x, l1, l2] S Z I J = g_at 128 1 [.ref x, l1, l2] (.ref x :: S) Z I J := gq_aload e_128_0 rfl
theorem e_128_1 : g_Pg 128 1 = ga_iload 1 2 := (congrFun pg_128 1).trans rfl
theorem q_128_1 {l0 l2 : Value} {x : Int32} {S : List Value} {Z : gZ} {I : gI} {J : gJ} : g_at 128 1 [l0, .int x, l2] S Z I J = g_at 128 2 [l0, .int x, l2] (.int x :: S) Z I J := gq_iload e_128_1 rfl
theorem e_128_2 : g_Pg 128 2 = ga_callV 7 85 1 5 := (congrFun pg_128 2).trans rfl
theorem q_128_2 {L : List Value} {a0 : Int32} {a1 : Nat} {Z : gZ} {I : gI} {J : gJ} (h : (gKd Z a1).1 = 7) : g_at 128 2 L [.int a0, .ref a1] Z I J = (g_at 85 0 [.ref a1, .int a0] [] Z I J).bind (fun r => g_at 128 5 L (r.1.toList ++ []) r.2.1 r.2.2.1 r.2.2.2) := gq_callV e_128_2 rfl rfl h rfl rfl rfl rfl rfl
theorem e_128_5 : g_Pg 128 5 = ga_if (fun x => decide (¬ x = 0)) 11 8 := (congrFun pg_128 5).trans rfl
theorem q_128_5 {L : List Value} {x : Int32} {S : List Value} {Z : gZ} {I : gI} {J : gJ} : g_at 128 5 L (.int x :: S) Z I J = if ¬ x = 0 then g_at 128 11 L S Z I J else g_at 128 8 L S Z I J := gq_if e_128_5 rfl
theorem e_128_8 : g_Pg 128 8 = ga_push (.int (-2)) 10 := (congrFun pg_128 8).trans rfl
theorem q_128_8 {L : List Value} {S : List Value} {Z : gZ} {I : gI} {J : gJ} : g_at 128 8 L S Z I J = g_at 128 10 L (.int (-2) :: S) Z I J := gq_push e_128_8
theorem e_128_10 : g_Pg 128 10 = ga_iret := (congrFun pg_128 10).trans rfl
theorem q_128_10 {L : List Value} {x : Int32} {Z : gZ} {I : gI} {J : gJ} : g_at 128 10 L [.int x] Z I J = some (some (.int x), Z, I, J) := gq_iret e_128_10
theorem e_128_11 : g_Pg 128 11 = ga_iload 2 12 := (congrFun pg_128 11).trans rfl
theorem q_128_11 {l0 l1 : Value} {x : Int32} {S : List Value} {Z : gZ} {I : gI} {J : gJ} : g_at 128 11 [l0, l1, .int x] S Z I J = g_at 128 12 [l0, l1, .int x] (.int x :: S) Z I J := gq_iload e_128_11 rfl
theorem e_128_12 : g_Pg 128 12 = ga_push (.int 0) 13 := (congrFun pg_128 12).trans rfl
theorem q_128_12 {L : List Value} {S : List Value} {Z : gZ} {I : gI} {J : gJ} : g_at 128 12 L S Z I J = g_at 128 13 L (.int 0 :: S) Z I J := gq_push e_128_12
theorem e_128_13 : g_Pg 128 13 = ga_push (.int 1) 14 := (congrFun pg_128 13).trans rfl
theorem q_128_13 {L : List Value} {S : List Value} {Z : gZ} {I : gI} {J : gJ} : g_at 128 13 L S Z I J = g_at 128 14 L (.int 1 :: S) Z I J := gq_push e_128_13
theorem e_128_14 : g_Pg 128 14 = ga_call 83 3 17 := (congrFun pg_128 14).trans rfl
theorem q_128_14 {L : List Value} {a0 : Int32} {a1 : Int32} {a2 : Int32} {Z : gZ} {I : gI} {J : gJ} : g_at 128 14 L [.int a0, .int a1, .int a2] Z I J = (g_at 83 0 [.int a2, .int a1, .int a0] [] Z I J).bind (fun r => g_at 128 17 L (r.1.toList ++ []) r.2.1 r.2.2.1 r.2.2.2) := gq_call e_128_14 rfl rfl rfl rfl rfl
theorem e_128_17 : g_Pg 128 17 = ga_if (fun x => decide (¬ x = 0)) 23 20 := (congrFun pg_128 17).trans rfl
theorem q_128_17 {L : List Value} {x : Int32} {S : List Value} {Z : gZ} {I : gI} {J : gJ} : g_at 128 17 L (.int x :: S) Z I J = if ¬ x = 0 then g_at 128 23 L S Z I J else g_at 128 20 L S Z I J := gq_if e_128_17 rfl
theorem e_128_20 : g_Pg 128 20 = ga_push (.int (-3)) 22 := (congrFun pg_128 20).trans rfl
theorem q_128_20 {L : List Value} {S : List Value} {Z : gZ} {I : gI} {J : gJ} : g_at 128 20 L S Z I J = g_at 128 22 L (.int (-3) :: S) Z I J := gq_push e_128_20
theorem e_128_22 : g_Pg 128 22 = ga_iret := (congrFun pg_128 22).trans rfl
theorem q_128_22 {L : List Value} {x : Int32} {Z : gZ} {I : gI} {J : gJ} : g_at 128 22 L [.int x] Z I J = some (some (.int x), Z, I, J) := gq_iret e_128_22
theorem e_128_23 : g_Pg 128 23 = ga_aload 0 24 := (congrFun pg_128 23).trans rfl
theorem q_128_23 {l1 l2 : Value} {x : Nat} {S : List Value} {Z : gZ} {I : gI} {J : gJ} : g_at 128 23 [.ref x, l1, l2] S Z I J = g_at 128 24 [.ref x, l1, l2] (.ref x :: S) Z I J := gq_aload e_128_23 rfl
theorem e_128_24 : g_Pg 128 24 = ga_getI 7 24 27 := (congrFun pg_128 24).trans rfl
theorem q_128_24 {L : List Value} {a : Nat} {S : List Value} {Z : gZ} {I : gI} {J : gJ} (h : (gKd Z a).1 = 7) : g_at 128 24 L (.ref a :: S) Z I J = g_at 128 27 L (.int (I a 24) :: S) Z I J := gq_getI e_128_24 h
theorem e_128_27 : g_Pg 128 27 = ga_push (.int 8) 29 := (congrFun pg_128 27).trans rfl
theorem q_128_27 {L : List Value} {S : List Value} {Z : gZ} {I : gI} {J : gJ} : g_at 128 27 L S Z I J = g_at 128 29 L (.int 8 :: S) Z I J := gq_push e_128_27
theorem e_128_29 : g_Pg 128 29 = ga_cmp (fun x y => decide (¬ x = y)) 35 32 := (congrFun pg_128 29).trans rfl
theorem q_128_29 {L : List Value} {x y : Int32} {S : List Value} {Z : gZ} {I : gI} {J : gJ} : g_at 128 29 L (.int y :: .int x :: S) Z I J = if ¬ x = y then g_at 128 35 L S Z I J else g_at 128 32 L S Z I J := gq_cmp e_128_29 rfl
theorem e_128_32 : g_Pg 128 32 = ga_push (.int (-5)) 34 := (congrFun pg_128 32).trans rfl
theorem q_128_32 {L : List Value} {S : List Value} {Z : gZ} {I : gI} {J : gJ} : g_at 128 32 L S Z I J = g_at 128 34 L (.int (-5) :: S) Z I J := gq_push e_128_32
theorem e_128_34 : g_Pg 128 34 = ga_iret := (congrFun pg_128 34).trans rfl
theorem q_128_34 {L : List Value} {x : Int32} {Z : gZ} {I : gI} {J : gJ} : g_at 128 34 L [.int x] Z I J = some (some (.int x), Z, I, J) := gq_iret e_128_34
theorem e_128_35 : g_Pg 128 35 = ga_aload 0 36 := (congrFun pg_128 35).trans rfl
theorem q_128_35 {l1 l2 : Value} {x : Nat} {S : List Value} {Z : gZ} {I : gI} {J : gJ} : g_at 128 35 [.ref x, l1, l2] S Z I J = g_at 128 36 [.ref x, l1, l2] (.ref x :: S) Z I J := gq_aload e_128_35 rfl
theorem e_128_36 : g_Pg 128 36 = ga_getR 7 25 39 := (congrFun pg_128 36).trans rfl
theorem q_128_36 {L : List Value} {a : Nat} {S : List Value} {Z : gZ} {I : gI} {J : gJ} (h : (gKd Z a).1 = 7) (h1 : gRs Z a 25 = true) : g_at 128 36 L (.ref a :: S) Z I J = g_at 128 39 L (.ref (gRq Z a 25) :: S) Z I J := gq_getR e_128_36 h h1
theorem e_128_39 : g_Pg 128 39 = ga_push (.int 2) 40 := (congrFun pg_128 39).trans rfl
theorem q_128_39 {L : List Value} {S : List Value} {Z : gZ} {I : gI} {J : gJ} : g_at 128 39 L S Z I J = g_at 128 40 L (.int 2 :: S) Z I J := gq_push e_128_39
theorem e_128_40 : g_Pg 128 40 = ga_aload 0 41 := (congrFun pg_128 40).trans rfl
theorem q_128_40 {l1 l2 : Value} {x : Nat} {S : List Value} {Z : gZ} {I : gI} {J : gJ} : g_at 128 40 [.ref x, l1, l2] S Z I J = g_at 128 41 [.ref x, l1, l2] (.ref x :: S) Z I J := gq_aload e_128_40 rfl
theorem e_128_41 : g_Pg 128 41 = ga_getI 7 24 44 := (congrFun pg_128 41).trans rfl
theorem q_128_41 {L : List Value} {a : Nat} {S : List Value} {Z : gZ} {I : gI} {J : gJ} (h : (gKd Z a).1 = 7) : g_at 128 41 L (.ref a :: S) Z I J = g_at 128 44 L (.int (I a 24) :: S) Z I J := gq_getI e_128_41 h
theorem e_128_44 : g_Pg 128 44 = ga_bin (fun x y => x * y) 45 := (congrFun pg_128 44).trans rfl
theorem q_128_44 {L : List Value} {x y : Int32} {S : List Value} {Z : gZ} {I : gI} {J : gJ} : g_at 128 44 L (.int y :: .int x :: S) Z I J = g_at 128 45 L (.int (x * y) :: S) Z I J := gq_bin e_128_44
theorem e_128_45 : g_Pg 128 45 = ga_iload 1 46 := (congrFun pg_128 45).trans rfl
theorem q_128_45 {l0 l2 : Value} {x : Int32} {S : List Value} {Z : gZ} {I : gI} {J : gJ} : g_at 128 45 [l0, .int x, l2] S Z I J = g_at 128 46 [l0, .int x, l2] (.int x :: S) Z I J := gq_iload e_128_45 rfl
theorem e_128_46 : g_Pg 128 46 = ga_iast 47 := (congrFun pg_128 46).trans rfl
theorem q_128_46 {L : List Value} {a : Nat} {i : Int32} {v : Int32} {S : List Value} {Z : gZ} {I : gI} {J : gJ} (h : (gKd Z a).1 = 8) (h0 : 0 ≤ i) (h1 : i.toNatClampNeg < (gKd Z a).2) : g_at 128 46 L (.int v :: .int i :: .ref a :: S) Z I J = g_at 128 47 L S Z (va_up I a (va_up (I a) i.toNatClampNeg v)) J := gq_iast e_128_46 h h0 h1
theorem e_128_47 : g_Pg 128 47 = ga_aload 0 48 := (congrFun pg_128 47).trans rfl
theorem q_128_47 {l1 l2 : Value} {x : Nat} {S : List Value} {Z : gZ} {I : gI} {J : gJ} : g_at 128 47 [.ref x, l1, l2] S Z I J = g_at 128 48 [.ref x, l1, l2] (.ref x :: S) Z I J := gq_aload e_128_47 rfl
theorem e_128_48 : g_Pg 128 48 = ga_getR 7 25 51 := (congrFun pg_128 48).trans rfl
theorem q_128_48 {L : List Value} {a : Nat} {S : List Value} {Z : gZ} {I : gI} {J : gJ} (h : (gKd Z a).1 = 7) (h1 : gRs Z a 25 = true) : g_at 128 48 L (.ref a :: S) Z I J = g_at 128 51 L (.ref (gRq Z a 25) :: S) Z I J := gq_getR e_128_48 h h1
theorem e_128_51 : g_Pg 128 51 = ga_push (.int 2) 52 := (congrFun pg_128 51).trans rfl
theorem q_128_51 {L : List Value} {S : List Value} {Z : gZ} {I : gI} {J : gJ} : g_at 128 51 L S Z I J = g_at 128 52 L (.int 2 :: S) Z I J := gq_push e_128_51
theorem e_128_52 : g_Pg 128 52 = ga_aload 0 53 := (congrFun pg_128 52).trans rfl
theorem q_128_52 {l1 l2 : Value} {x : Nat} {S : List Value} {Z : gZ} {I : gI} {J : gJ} : g_at 128 52 [.ref x, l1, l2] S Z I J = g_at 128 53 [.ref x, l1, l2] (.ref x :: S) Z I J := gq_aload e_128_52 rfl
theorem e_128_53 : g_Pg 128 53 = ga_getI 7 24 56 := (congrFun pg_128 53).trans rfl
theorem q_128_53 {L : List Value} {a : Nat} {S : List Value} {Z : gZ} {I : gI} {J : gJ} (h : (gKd Z a).1 = 7) : g_at 128 53 L (.ref a :: S) Z I J = g_at 128 56 L (.int (I a 24) :: S) Z I J := gq_getI e_128_53 h
theorem e_128_56 : g_Pg 128 56 = ga_bin (fun x y => x * y) 57 := (congrFun pg_128 56).trans rfl
theorem q_128_56 {L : List Value} {x y : Int32} {S : List Value} {Z : gZ} {I : gI} {J : gJ} : g_at 128 56 L (.int y :: .int x :: S) Z I J = g_at 128 57 L (.int (x * y) :: S) Z I J := gq_bin e_128_56
theorem e_128_57 : g_Pg 128 57 = ga_push (.int 1) 58 := (congrFun pg_128 57).trans rfl
theorem q_128_57 {L : List Value} {S : List Value} {Z : gZ} {I : gI} {J : gJ} : g_at 128 57 L S Z I J = g_at 128 58 L (.int 1 :: S) Z I J := gq_push e_128_57
theorem e_128_58 : g_Pg 128 58 = ga_bin (fun x y => x + y) 59 := (congrFun pg_128 58).trans rfl
theorem q_128_58 {L : List Value} {x y : Int32} {S : List Value} {Z : gZ} {I : gI} {J : gJ} : g_at 128 58 L (.int y :: .int x :: S) Z I J = g_at 128 59 L (.int (x + y) :: S) Z I J := gq_bin e_128_58
theorem e_128_59 : g_Pg 128 59 = ga_iload 2 60 := (congrFun pg_128 59).trans rfl
theorem q_128_59 {l0 l1 : Value} {x : Int32} {S : List Value} {Z : gZ} {I : gI} {J : gJ} : g_at 128 59 [l0, l1, .int x] S Z I J = g_at 128 60 [l0, l1, .int x] (.int x :: S) Z I J := gq_iload e_128_59 rfl
theorem e_128_60 : g_Pg 128 60 = ga_iast 61 := (congrFun pg_128 60).trans rfl
theorem q_128_60 {L : List Value} {a : Nat} {i : Int32} {v : Int32} {S : List Value} {Z : gZ} {I : gI} {J : gJ} (h : (gKd Z a).1 = 8) (h0 : 0 ≤ i) (h1 : i.toNatClampNeg < (gKd Z a).2) : g_at 128 60 L (.int v :: .int i :: .ref a :: S) Z I J = g_at 128 61 L S Z (va_up I a (va_up (I a) i.toNatClampNeg v)) J := gq_iast e_128_60 h h0 h1
theorem e_128_61 : g_Pg 128 61 = ga_aload 0 62 := (congrFun pg_128 61).trans rfl
theorem q_128_61 {l1 l2 : Value} {x : Nat} {S : List Value} {Z : gZ} {I : gI} {J : gJ} : g_at 128 61 [.ref x, l1, l2] S Z I J = g_at 128 62 [.ref x, l1, l2] (.ref x :: S) Z I J := gq_aload e_128_61 rfl
theorem e_128_62 : g_Pg 128 62 = ga_dup 63 := (congrFun pg_128 62).trans rfl
theorem q_128_62 {L : List Value} {x : Nat} {S : List Value} {Z : gZ} {I : gI} {J : gJ} : g_at 128 62 L (.ref x :: S) Z I J = g_at 128 63 L (.ref x :: .ref x :: S) Z I J := gq_dup e_128_62
theorem e_128_63 : g_Pg 128 63 = ga_getI 7 24 66 := (congrFun pg_128 63).trans rfl
theorem q_128_63 {L : List Value} {a : Nat} {S : List Value} {Z : gZ} {I : gI} {J : gJ} (h : (gKd Z a).1 = 7) : g_at 128 63 L (.ref a :: S) Z I J = g_at 128 66 L (.int (I a 24) :: S) Z I J := gq_getI e_128_63 h
theorem e_128_66 : g_Pg 128 66 = ga_push (.int 1) 67 := (congrFun pg_128 66).trans rfl
theorem q_128_66 {L : List Value} {S : List Value} {Z : gZ} {I : gI} {J : gJ} : g_at 128 66 L S Z I J = g_at 128 67 L (.int 1 :: S) Z I J := gq_push e_128_66
theorem e_128_67 : g_Pg 128 67 = ga_bin (fun x y => x + y) 68 := (congrFun pg_128 67).trans rfl
theorem q_128_67 {L : List Value} {x y : Int32} {S : List Value} {Z : gZ} {I : gI} {J : gJ} : g_at 128 67 L (.int y :: .int x :: S) Z I J = g_at 128 68 L (.int (x + y) :: S) Z I J := gq_bin e_128_67
theorem e_128_68 : g_Pg 128 68 = ga_putI 7 24 71 := (congrFun pg_128 68).trans rfl
theorem q_128_68 {L : List Value} {a : Nat} {v : Int32} {S : List Value} {Z : gZ} {I : gI} {J : gJ} (h : (gKd Z a).1 = 7) : g_at 128 68 L (.int v :: .ref a :: S) Z I J = g_at 128 71 L S Z (va_up I a (va_up (I a) 24 v)) J := gq_putI e_128_68 h
theorem e_128_71 : g_Pg 128 71 = ga_aload 0 72 := (congrFun pg_128 71).trans rfl
theorem q_128_71 {l1 l2 : Value} {x : Nat} {S : List Value} {Z : gZ} {I : gI} {J : gJ} : g_at 128 71 [.ref x, l1, l2] S Z I J = g_at 128 72 [.ref x, l1, l2] (.ref x :: S) Z I J := gq_aload e_128_71 rfl
theorem e_128_72 : g_Pg 128 72 = ga_getI 7 24 75 := (congrFun pg_128 72).trans rfl
theorem q_128_72 {L : List Value} {a : Nat} {S : List Value} {Z : gZ} {I : gI} {J : gJ} (h : (gKd Z a).1 = 7) : g_at 128 72 L (.ref a :: S) Z I J = g_at 128 75 L (.int (I a 24) :: S) Z I J := gq_getI e_128_72 h
theorem e_128_75 : g_Pg 128 75 = ga_iret := (congrFun pg_128 75).trans rfl
theorem q_128_75 {L : List Value} {x : Int32} {Z : gZ} {I : gI} {J : gJ} : g_at 128 75 L [.int x] Z I J = some (some (.int x), Z, I, J) := gq_iret e_128_75
theorem e_129_0 : g_Pg 129 0 = ga_aload 0 1 := (congrFun pg_129 0).trans rfl
theorem q_129_0 {l1 : Value} {x : Nat} {S : List Value} {Z : gZ} {I : gI} {J : gJ} : g_at 129 0 [.ref x, l1] S Z I J = g_at 129 1 [.ref x, l1] (.ref x :: S) Z I J := gq_aload e_129_0 rfl
theorem e_129_1 : g_Pg 129 1 = ga_getI 7 24 4 := (congrFun pg_129 1).trans rfl
theorem q_129_1 {L : List Value} {a : Nat} {S : List Value} {Z : gZ} {I : gI} {J : gJ} (h : (gKd Z a).1 = 7) : g_at 129 1 L (.ref a :: S) Z I J = g_at 129 4 L (.int (I a 24) :: S) Z I J := gq_getI e_129_1 h
theorem e_129_4 : g_Pg 129 4 = ga_istore 1 5 := (congrFun pg_129 4).trans rfl
theorem q_129_4 {l0 l1 : Value} {x : Int32} {S : List Value} {Z : gZ} {I : gI} {J : gJ} (h : gN1 l0 = true) : g_at 129 4 [l0, l1] (.int x :: S) Z I J = g_at 129 5 [l0, .int x] S Z I J := gq_istore e_129_4 h rfl rfl
theorem e_129_5 : g_Pg 129 5 = ga_aload 0 6 := (congrFun pg_129 5).trans rfl
theorem q_129_5 {l1 : Value} {x : Nat} {S : List Value} {Z : gZ} {I : gI} {J : gJ} : g_at 129 5 [.ref x, l1] S Z I J = g_at 129 6 [.ref x, l1] (.ref x :: S) Z I J := gq_aload e_129_5 rfl
theorem e_129_6 : g_Pg 129 6 = ga_push (.int 0) 7 := (congrFun pg_129 6).trans rfl
theorem q_129_6 {L : List Value} {S : List Value} {Z : gZ} {I : gI} {J : gJ} : g_at 129 6 L S Z I J = g_at 129 7 L (.int 0 :: S) Z I J := gq_push e_129_6
theorem e_129_7 : g_Pg 129 7 = ga_putI 7 24 10 := (congrFun pg_129 7).trans rfl
theorem q_129_7 {L : List Value} {a : Nat} {v : Int32} {S : List Value} {Z : gZ} {I : gI} {J : gJ} (h : (gKd Z a).1 = 7) : g_at 129 7 L (.int v :: .ref a :: S) Z I J = g_at 129 10 L S Z (va_up I a (va_up (I a) 24 v)) J := gq_putI e_129_7 h
theorem e_129_10 : g_Pg 129 10 = ga_iload 1 11 := (congrFun pg_129 10).trans rfl
theorem q_129_10 {l0 : Value} {x : Int32} {S : List Value} {Z : gZ} {I : gI} {J : gJ} : g_at 129 10 [l0, .int x] S Z I J = g_at 129 11 [l0, .int x] (.int x :: S) Z I J := gq_iload e_129_10 rfl
theorem e_129_11 : g_Pg 129 11 = ga_iret := (congrFun pg_129 11).trans rfl
theorem q_129_11 {L : List Value} {x : Int32} {Z : gZ} {I : gI} {J : gJ} : g_at 129 11 L [.int x] Z I J = some (some (.int x), Z, I, J) := gq_iret e_129_11
theorem e_130_0 : g_Pg 130 0 = ga_aload 0 1 := (congrFun pg_130 0).trans rfl
theorem q_130_0 {l1 l2 l3 l4 : Value} {x : Nat} {S : List Value} {Z : gZ} {I : gI} {J : gJ} : g_at 130 0 [.ref x, l1, l2, l3, l4] S Z I J = g_at 130 1 [.ref x, l1, l2, l3, l4] (.ref x :: S) Z I J := gq_aload e_130_0 rfl
theorem e_130_1 : g_Pg 130 1 = ga_iload 1 2 := (congrFun pg_130 1).trans rfl
theorem q_130_1 {l0 l2 l3 l4 : Value} {x : Int32} {S : List Value} {Z : gZ} {I : gI} {J : gJ} : g_at 130 1 [l0, .int x, l2, l3, l4] S Z I J = g_at 130 2 [l0, .int x, l2, l3, l4] (.int x :: S) Z I J := gq_iload e_130_1 rfl
theorem e_130_2 : g_Pg 130 2 = ga_callV 7 114 1 5 := (congrFun pg_130 2).trans rfl
theorem q_130_2 {L : List Value} {a0 : Int32} {a1 : Nat} {Z : gZ} {I : gI} {J : gJ} (h : (gKd Z a1).1 = 7) : g_at 130 2 L [.int a0, .ref a1] Z I J = (g_at 114 0 [.ref a1, .int a0, .null, .null] [] Z I J).bind (fun r => g_at 130 5 L (r.1.toList ++ []) r.2.1 r.2.2.1 r.2.2.2) := gq_callV e_130_2 rfl rfl h rfl rfl rfl rfl rfl
theorem e_130_5 : g_Pg 130 5 = ga_istore 2 6 := (congrFun pg_130 5).trans rfl
theorem q_130_5 {l0 l1 l2 l3 l4 : Value} {x : Int32} {S : List Value} {Z : gZ} {I : gI} {J : gJ} (h : gN1 l1 = true) : g_at 130 5 [l0, l1, l2, l3, l4] (.int x :: S) Z I J = g_at 130 6 [l0, l1, .int x, l3, l4] S Z I J := gq_istore e_130_5 h rfl rfl
theorem e_130_6 : g_Pg 130 6 = ga_push (.int 1) 7 := (congrFun pg_130 6).trans rfl
theorem q_130_6 {L : List Value} {S : List Value} {Z : gZ} {I : gI} {J : gJ} : g_at 130 6 L S Z I J = g_at 130 7 L (.int 1 :: S) Z I J := gq_push e_130_6
theorem e_130_7 : g_Pg 130 7 = ga_istore 3 8 := (congrFun pg_130 7).trans rfl
theorem q_130_7 {l0 l1 l2 l3 l4 : Value} {x : Int32} {S : List Value} {Z : gZ} {I : gI} {J : gJ} (h : gN1 l2 = true) : g_at 130 7 [l0, l1, l2, l3, l4] (.int x :: S) Z I J = g_at 130 8 [l0, l1, l2, .int x, l4] S Z I J := gq_istore e_130_7 h rfl rfl
theorem e_130_8 : g_Pg 130 8 = ga_push (.int 0) 9 := (congrFun pg_130 8).trans rfl
theorem q_130_8 {L : List Value} {S : List Value} {Z : gZ} {I : gI} {J : gJ} : g_at 130 8 L S Z I J = g_at 130 9 L (.int 0 :: S) Z I J := gq_push e_130_8
theorem e_130_9 : g_Pg 130 9 = ga_istore 4 11 := (congrFun pg_130 9).trans rfl
theorem q_130_9 {l0 l1 l2 l3 l4 : Value} {x : Int32} {S : List Value} {Z : gZ} {I : gI} {J : gJ} (h : gN1 l3 = true) : g_at 130 9 [l0, l1, l2, l3, l4] (.int x :: S) Z I J = g_at 130 11 [l0, l1, l2, l3, .int x] S Z I J := gq_istore e_130_9 h rfl rfl
theorem e_130_11 : g_Pg 130 11 = ga_iload 4 13 := (congrFun pg_130 11).trans rfl
theorem q_130_11 {l0 l1 l2 l3 : Value} {x : Int32} {S : List Value} {Z : gZ} {I : gI} {J : gJ} : g_at 130 11 [l0, l1, l2, l3, .int x] S Z I J = g_at 130 13 [l0, l1, l2, l3, .int x] (.int x :: S) Z I J := gq_iload e_130_11 rfl
theorem e_130_13 : g_Pg 130 13 = ga_aload 0 14 := (congrFun pg_130 13).trans rfl
theorem q_130_13 {l1 l2 l3 l4 : Value} {x : Nat} {S : List Value} {Z : gZ} {I : gI} {J : gJ} : g_at 130 13 [.ref x, l1, l2, l3, l4] S Z I J = g_at 130 14 [.ref x, l1, l2, l3, l4] (.ref x :: S) Z I J := gq_aload e_130_13 rfl
theorem e_130_14 : g_Pg 130 14 = ga_getI 7 24 17 := (congrFun pg_130 14).trans rfl
theorem q_130_14 {L : List Value} {a : Nat} {S : List Value} {Z : gZ} {I : gI} {J : gJ} (h : (gKd Z a).1 = 7) : g_at 130 14 L (.ref a :: S) Z I J = g_at 130 17 L (.int (I a 24) :: S) Z I J := gq_getI e_130_14 h
theorem e_130_17 : g_Pg 130 17 = ga_cmp (fun x y => decide (y ≤ x)) 63 20 := (congrFun pg_130 17).trans rfl
theorem q_130_17 {L : List Value} {x y : Int32} {S : List Value} {Z : gZ} {I : gI} {J : gJ} : g_at 130 17 L (.int y :: .int x :: S) Z I J = if y ≤ x then g_at 130 63 L S Z I J else g_at 130 20 L S Z I J := gq_cmp e_130_17 rfl
theorem e_130_20 : g_Pg 130 20 = ga_iload 3 21 := (congrFun pg_130 20).trans rfl
theorem q_130_20 {l0 l1 l2 l4 : Value} {x : Int32} {S : List Value} {Z : gZ} {I : gI} {J : gJ} : g_at 130 20 [l0, l1, l2, .int x, l4] S Z I J = g_at 130 21 [l0, l1, l2, .int x, l4] (.int x :: S) Z I J := gq_iload e_130_20 rfl
theorem e_130_21 : g_Pg 130 21 = ga_if (fun x => decide (x = 0)) 55 24 := (congrFun pg_130 21).trans rfl
theorem q_130_21 {L : List Value} {x : Int32} {S : List Value} {Z : gZ} {I : gI} {J : gJ} : g_at 130 21 L (.int x :: S) Z I J = if x = 0 then g_at 130 55 L S Z I J else g_at 130 24 L S Z I J := gq_if e_130_21 rfl
theorem e_130_24 : g_Pg 130 24 = ga_iload 2 25 := (congrFun pg_130 24).trans rfl
theorem q_130_24 {l0 l1 l3 l4 : Value} {x : Int32} {S : List Value} {Z : gZ} {I : gI} {J : gJ} : g_at 130 24 [l0, l1, .int x, l3, l4] S Z I J = g_at 130 25 [l0, l1, .int x, l3, l4] (.int x :: S) Z I J := gq_iload e_130_24 rfl
theorem e_130_25 : g_Pg 130 25 = ga_aload 0 26 := (congrFun pg_130 25).trans rfl
theorem q_130_25 {l1 l2 l3 l4 : Value} {x : Nat} {S : List Value} {Z : gZ} {I : gI} {J : gJ} : g_at 130 25 [.ref x, l1, l2, l3, l4] S Z I J = g_at 130 26 [.ref x, l1, l2, l3, l4] (.ref x :: S) Z I J := gq_aload e_130_25 rfl
theorem e_130_26 : g_Pg 130 26 = ga_getR 7 25 29 := (congrFun pg_130 26).trans rfl
theorem q_130_26 {L : List Value} {a : Nat} {S : List Value} {Z : gZ} {I : gI} {J : gJ} (h : (gKd Z a).1 = 7) (h1 : gRs Z a 25 = true) : g_at 130 26 L (.ref a :: S) Z I J = g_at 130 29 L (.ref (gRq Z a 25) :: S) Z I J := gq_getR e_130_26 h h1
theorem e_130_29 : g_Pg 130 29 = ga_push (.int 2) 30 := (congrFun pg_130 29).trans rfl
theorem q_130_29 {L : List Value} {S : List Value} {Z : gZ} {I : gI} {J : gJ} : g_at 130 29 L S Z I J = g_at 130 30 L (.int 2 :: S) Z I J := gq_push e_130_29
theorem e_130_30 : g_Pg 130 30 = ga_iload 4 32 := (congrFun pg_130 30).trans rfl
theorem q_130_30 {l0 l1 l2 l3 : Value} {x : Int32} {S : List Value} {Z : gZ} {I : gI} {J : gJ} : g_at 130 30 [l0, l1, l2, l3, .int x] S Z I J = g_at 130 32 [l0, l1, l2, l3, .int x] (.int x :: S) Z I J := gq_iload e_130_30 rfl
theorem e_130_32 : g_Pg 130 32 = ga_bin (fun x y => x * y) 33 := (congrFun pg_130 32).trans rfl
theorem q_130_32 {L : List Value} {x y : Int32} {S : List Value} {Z : gZ} {I : gI} {J : gJ} : g_at 130 32 L (.int y :: .int x :: S) Z I J = g_at 130 33 L (.int (x * y) :: S) Z I J := gq_bin e_130_32
theorem e_130_33 : g_Pg 130 33 = ga_iald 34 := (congrFun pg_130 33).trans rfl
theorem q_130_33 {L : List Value} {a : Nat} {i : Int32} {S : List Value} {Z : gZ} {I : gI} {J : gJ} (h : gTg8 (gKd Z a).1 a = true) (h0 : 0 ≤ i) (h1 : i.toNatClampNeg < (gKd Z a).2) : g_at 130 33 L (.int i :: .ref a :: S) Z I J = g_at 130 34 L (.int (I a i.toNatClampNeg) :: S) Z I J := gq_iald e_130_33 h h0 h1
theorem e_130_34 : g_Pg 130 34 = ga_bin (fun x y => x >>> (y &&& 31)) 35 := (congrFun pg_130 34).trans rfl
theorem q_130_34 {L : List Value} {x y : Int32} {S : List Value} {Z : gZ} {I : gI} {J : gJ} : g_at 130 34 L (.int y :: .int x :: S) Z I J = g_at 130 35 L (.int (x >>> (y &&& 31)) :: S) Z I J := gq_bin e_130_34
theorem e_130_35 : g_Pg 130 35 = ga_push (.int 1) 36 := (congrFun pg_130 35).trans rfl
theorem q_130_35 {L : List Value} {S : List Value} {Z : gZ} {I : gI} {J : gJ} : g_at 130 35 L S Z I J = g_at 130 36 L (.int 1 :: S) Z I J := gq_push e_130_35
theorem e_130_36 : g_Pg 130 36 = ga_bin (fun x y => x &&& y) 37 := (congrFun pg_130 36).trans rfl
theorem q_130_36 {L : List Value} {x y : Int32} {S : List Value} {Z : gZ} {I : gI} {J : gJ} : g_at 130 36 L (.int y :: .int x :: S) Z I J = g_at 130 37 L (.int (x &&& y) :: S) Z I J := gq_bin e_130_36
theorem e_130_37 : g_Pg 130 37 = ga_aload 0 38 := (congrFun pg_130 37).trans rfl
theorem q_130_37 {l1 l2 l3 l4 : Value} {x : Nat} {S : List Value} {Z : gZ} {I : gI} {J : gJ} : g_at 130 37 [.ref x, l1, l2, l3, l4] S Z I J = g_at 130 38 [.ref x, l1, l2, l3, l4] (.ref x :: S) Z I J := gq_aload e_130_37 rfl
theorem e_130_38 : g_Pg 130 38 = ga_getR 7 25 41 := (congrFun pg_130 38).trans rfl
theorem q_130_38 {L : List Value} {a : Nat} {S : List Value} {Z : gZ} {I : gI} {J : gJ} (h : (gKd Z a).1 = 7) (h1 : gRs Z a 25 = true) : g_at 130 38 L (.ref a :: S) Z I J = g_at 130 41 L (.ref (gRq Z a 25) :: S) Z I J := gq_getR e_130_38 h h1
theorem e_130_41 : g_Pg 130 41 = ga_push (.int 2) 42 := (congrFun pg_130 41).trans rfl
theorem q_130_41 {L : List Value} {S : List Value} {Z : gZ} {I : gI} {J : gJ} : g_at 130 41 L S Z I J = g_at 130 42 L (.int 2 :: S) Z I J := gq_push e_130_41
theorem e_130_42 : g_Pg 130 42 = ga_iload 4 44 := (congrFun pg_130 42).trans rfl
theorem q_130_42 {l0 l1 l2 l3 : Value} {x : Int32} {S : List Value} {Z : gZ} {I : gI} {J : gJ} : g_at 130 42 [l0, l1, l2, l3, .int x] S Z I J = g_at 130 44 [l0, l1, l2, l3, .int x] (.int x :: S) Z I J := gq_iload e_130_42 rfl
theorem e_130_44 : g_Pg 130 44 = ga_bin (fun x y => x * y) 45 := (congrFun pg_130 44).trans rfl
theorem q_130_44 {L : List Value} {x y : Int32} {S : List Value} {Z : gZ} {I : gI} {J : gJ} : g_at 130 44 L (.int y :: .int x :: S) Z I J = g_at 130 45 L (.int (x * y) :: S) Z I J := gq_bin e_130_44
theorem e_130_45 : g_Pg 130 45 = ga_push (.int 1) 46 := (congrFun pg_130 45).trans rfl
theorem q_130_45 {L : List Value} {S : List Value} {Z : gZ} {I : gI} {J : gJ} : g_at 130 45 L S Z I J = g_at 130 46 L (.int 1 :: S) Z I J := gq_push e_130_45
theorem e_130_46 : g_Pg 130 46 = ga_bin (fun x y => x + y) 47 := (congrFun pg_130 46).trans rfl
theorem q_130_46 {L : List Value} {x y : Int32} {S : List Value} {Z : gZ} {I : gI} {J : gJ} : g_at 130 46 L (.int y :: .int x :: S) Z I J = g_at 130 47 L (.int (x + y) :: S) Z I J := gq_bin e_130_46
theorem e_130_47 : g_Pg 130 47 = ga_iald 48 := (congrFun pg_130 47).trans rfl
theorem q_130_47 {L : List Value} {a : Nat} {i : Int32} {S : List Value} {Z : gZ} {I : gI} {J : gJ} (h : gTg8 (gKd Z a).1 a = true) (h0 : 0 ≤ i) (h1 : i.toNatClampNeg < (gKd Z a).2) : g_at 130 47 L (.int i :: .ref a :: S) Z I J = g_at 130 48 L (.int (I a i.toNatClampNeg) :: S) Z I J := gq_iald e_130_47 h h0 h1
theorem e_130_48 : g_Pg 130 48 = ga_cmp (fun x y => decide (¬ x = y)) 55 51 := (congrFun pg_130 48).trans rfl
theorem q_130_48 {L : List Value} {x y : Int32} {S : List Value} {Z : gZ} {I : gI} {J : gJ} : g_at 130 48 L (.int y :: .int x :: S) Z I J = if ¬ x = y then g_at 130 55 L S Z I J else g_at 130 51 L S Z I J := gq_cmp e_130_48 rfl
theorem e_130_51 : g_Pg 130 51 = ga_push (.int 1) 52 := (congrFun pg_130 51).trans rfl
theorem q_130_51 {L : List Value} {S : List Value} {Z : gZ} {I : gI} {J : gJ} : g_at 130 51 L S Z I J = g_at 130 52 L (.int 1 :: S) Z I J := gq_push e_130_51
theorem e_130_52 : g_Pg 130 52 = ga_goto 56 := (congrFun pg_130 52).trans rfl
theorem q_130_52 {L : List Value} {S : List Value} {Z : gZ} {I : gI} {J : gJ} : g_at 130 52 L S Z I J = g_at 130 56 L S Z I J := gq_goto e_130_52
theorem e_130_55 : g_Pg 130 55 = ga_push (.int 0) 56 := (congrFun pg_130 55).trans rfl
theorem q_130_55 {L : List Value} {S : List Value} {Z : gZ} {I : gI} {J : gJ} : g_at 130 55 L S Z I J = g_at 130 56 L (.int 0 :: S) Z I J := gq_push e_130_55
theorem e_130_56 : g_Pg 130 56 = ga_istore 3 57 := (congrFun pg_130 56).trans rfl
theorem q_130_56 {l0 l1 l2 l3 l4 : Value} {x : Int32} {S : List Value} {Z : gZ} {I : gI} {J : gJ} (h : gN1 l2 = true) : g_at 130 56 [l0, l1, l2, l3, l4] (.int x :: S) Z I J = g_at 130 57 [l0, l1, l2, .int x, l4] S Z I J := gq_istore e_130_56 h rfl rfl
theorem e_130_57 : g_Pg 130 57 = ga_iinc 4 1 60 := (congrFun pg_130 57).trans rfl
theorem q_130_57 {l0 l1 l2 l3 : Value} {x : Int32} {S : List Value} {Z : gZ} {I : gI} {J : gJ} (h : gN1 l3 = true) : g_at 130 57 [l0, l1, l2, l3, .int x] S Z I J = g_at 130 60 [l0, l1, l2, l3, .int (x + 1)] S Z I J := gq_iinc e_130_57 rfl h rfl
theorem e_130_60 : g_Pg 130 60 = ga_goto 11 := (congrFun pg_130 60).trans rfl
theorem q_130_60 {L : List Value} {S : List Value} {Z : gZ} {I : gI} {J : gJ} : g_at 130 60 L S Z I J = g_at 130 11 L S Z I J := gq_goto e_130_60
theorem e_130_63 : g_Pg 130 63 = ga_iload 3 64 := (congrFun pg_130 63).trans rfl
theorem q_130_63 {l0 l1 l2 l4 : Value} {x : Int32} {S : List Value} {Z : gZ} {I : gI} {J : gJ} : g_at 130 63 [l0, l1, l2, .int x, l4] S Z I J = g_at 130 64 [l0, l1, l2, .int x, l4] (.int x :: S) Z I J := gq_iload e_130_63 rfl
theorem e_130_64 : g_Pg 130 64 = ga_zret := (congrFun pg_130 64).trans rfl
theorem q_130_64 {L : List Value} {x : Int32} {Z : gZ} {I : gI} {J : gJ} (h : gB01 x = true) : g_at 130 64 L [.int x] Z I J = some (some (.int x), Z, I, J) := gq_zret e_130_64 h
theorem e_131_0 : g_Pg 131 0 = ga_aload 0 1 := (congrFun pg_131 0).trans rfl
theorem q_131_0 {l1 l2 l3 l4 : Value} {x : Nat} {S : List Value} {Z : gZ} {I : gI} {J : gJ} : g_at 131 0 [.ref x, l1, l2, l3, l4] S Z I J = g_at 131 1 [.ref x, l1, l2, l3, l4] (.ref x :: S) Z I J := gq_aload e_131_0 rfl
theorem e_131_1 : g_Pg 131 1 = ga_iload 1 2 := (congrFun pg_131 1).trans rfl
theorem q_131_1 {l0 l2 l3 l4 : Value} {x : Int32} {S : List Value} {Z : gZ} {I : gI} {J : gJ} : g_at 131 1 [l0, .int x, l2, l3, l4] S Z I J = g_at 131 2 [l0, .int x, l2, l3, l4] (.int x :: S) Z I J := gq_iload e_131_1 rfl
theorem e_131_2 : g_Pg 131 2 = ga_callV 7 85 1 5 := (congrFun pg_131 2).trans rfl
theorem q_131_2 {L : List Value} {a0 : Int32} {a1 : Nat} {Z : gZ} {I : gI} {J : gJ} (h : (gKd Z a1).1 = 7) : g_at 131 2 L [.int a0, .ref a1] Z I J = (g_at 85 0 [.ref a1, .int a0] [] Z I J).bind (fun r => g_at 131 5 L (r.1.toList ++ []) r.2.1 r.2.2.1 r.2.2.2) := gq_callV e_131_2 rfl rfl h rfl rfl rfl rfl rfl
theorem e_131_5 : g_Pg 131 5 = ga_if (fun x => decide (¬ x = 0)) 11 8 := (congrFun pg_131 5).trans rfl
theorem q_131_5 {L : List Value} {x : Int32} {S : List Value} {Z : gZ} {I : gI} {J : gJ} : g_at 131 5 L (.int x :: S) Z I J = if ¬ x = 0 then g_at 131 11 L S Z I J else g_at 131 8 L S Z I J := gq_if e_131_5 rfl
theorem e_131_8 : g_Pg 131 8 = ga_push (.int (-2)) 10 := (congrFun pg_131 8).trans rfl
theorem q_131_8 {L : List Value} {S : List Value} {Z : gZ} {I : gI} {J : gJ} : g_at 131 8 L S Z I J = g_at 131 10 L (.int (-2) :: S) Z I J := gq_push e_131_8
theorem e_131_10 : g_Pg 131 10 = ga_iret := (congrFun pg_131 10).trans rfl
theorem q_131_10 {L : List Value} {x : Int32} {Z : gZ} {I : gI} {J : gJ} : g_at 131 10 L [.int x] Z I J = some (some (.int x), Z, I, J) := gq_iret e_131_10
theorem e_131_11 : g_Pg 131 11 = ga_iload 2 12 := (congrFun pg_131 11).trans rfl
theorem q_131_11 {l0 l1 l3 l4 : Value} {x : Int32} {S : List Value} {Z : gZ} {I : gI} {J : gJ} : g_at 131 11 [l0, l1, .int x, l3, l4] S Z I J = g_at 131 12 [l0, l1, .int x, l3, l4] (.int x :: S) Z I J := gq_iload e_131_11 rfl
theorem e_131_12 : g_Pg 131 12 = ga_push (.int 0) 13 := (congrFun pg_131 12).trans rfl
theorem q_131_12 {L : List Value} {S : List Value} {Z : gZ} {I : gI} {J : gJ} : g_at 131 12 L S Z I J = g_at 131 13 L (.int 0 :: S) Z I J := gq_push e_131_12
theorem e_131_13 : g_Pg 131 13 = ga_push (.int 1) 14 := (congrFun pg_131 13).trans rfl
theorem q_131_13 {L : List Value} {S : List Value} {Z : gZ} {I : gI} {J : gJ} : g_at 131 13 L S Z I J = g_at 131 14 L (.int 1 :: S) Z I J := gq_push e_131_13
theorem e_131_14 : g_Pg 131 14 = ga_call 83 3 17 := (congrFun pg_131 14).trans rfl
theorem q_131_14 {L : List Value} {a0 : Int32} {a1 : Int32} {a2 : Int32} {Z : gZ} {I : gI} {J : gJ} : g_at 131 14 L [.int a0, .int a1, .int a2] Z I J = (g_at 83 0 [.int a2, .int a1, .int a0] [] Z I J).bind (fun r => g_at 131 17 L (r.1.toList ++ []) r.2.1 r.2.2.1 r.2.2.2) := gq_call e_131_14 rfl rfl rfl rfl rfl
theorem e_131_17 : g_Pg 131 17 = ga_if (fun x => decide (¬ x = 0)) 23 20 := (congrFun pg_131 17).trans rfl
theorem q_131_17 {L : List Value} {x : Int32} {S : List Value} {Z : gZ} {I : gI} {J : gJ} : g_at 131 17 L (.int x :: S) Z I J = if ¬ x = 0 then g_at 131 23 L S Z I J else g_at 131 20 L S Z I J := gq_if e_131_17 rfl
theorem e_131_20 : g_Pg 131 20 = ga_push (.int (-3)) 22 := (congrFun pg_131 20).trans rfl
theorem q_131_20 {L : List Value} {S : List Value} {Z : gZ} {I : gI} {J : gJ} : g_at 131 20 L S Z I J = g_at 131 22 L (.int (-3) :: S) Z I J := gq_push e_131_20
theorem e_131_22 : g_Pg 131 22 = ga_iret := (congrFun pg_131 22).trans rfl
theorem q_131_22 {L : List Value} {x : Int32} {Z : gZ} {I : gI} {J : gJ} : g_at 131 22 L [.int x] Z I J = some (some (.int x), Z, I, J) := gq_iret e_131_22
theorem e_131_23 : g_Pg 131 23 = ga_iload 2 24 := (congrFun pg_131 23).trans rfl
theorem q_131_23 {l0 l1 l3 l4 : Value} {x : Int32} {S : List Value} {Z : gZ} {I : gI} {J : gJ} : g_at 131 23 [l0, l1, .int x, l3, l4] S Z I J = g_at 131 24 [l0, l1, .int x, l3, l4] (.int x :: S) Z I J := gq_iload e_131_23 rfl
theorem e_131_24 : g_Pg 131 24 = ga_push (.int 1) 25 := (congrFun pg_131 24).trans rfl
theorem q_131_24 {L : List Value} {S : List Value} {Z : gZ} {I : gI} {J : gJ} : g_at 131 24 L S Z I J = g_at 131 25 L (.int 1 :: S) Z I J := gq_push e_131_24
theorem e_131_25 : g_Pg 131 25 = ga_cmp (fun x y => decide (¬ x = y)) 42 28 := (congrFun pg_131 25).trans rfl
theorem q_131_25 {L : List Value} {x y : Int32} {S : List Value} {Z : gZ} {I : gI} {J : gJ} : g_at 131 25 L (.int y :: .int x :: S) Z I J = if ¬ x = y then g_at 131 42 L S Z I J else g_at 131 28 L S Z I J := gq_cmp e_131_25 rfl
theorem e_131_28 : g_Pg 131 28 = ga_aload 0 29 := (congrFun pg_131 28).trans rfl
theorem q_131_28 {l1 l2 l3 l4 : Value} {x : Nat} {S : List Value} {Z : gZ} {I : gI} {J : gJ} : g_at 131 28 [.ref x, l1, l2, l3, l4] S Z I J = g_at 131 29 [.ref x, l1, l2, l3, l4] (.ref x :: S) Z I J := gq_aload e_131_28 rfl
theorem e_131_29 : g_Pg 131 29 = ga_iload 1 30 := (congrFun pg_131 29).trans rfl
theorem q_131_29 {l0 l2 l3 l4 : Value} {x : Int32} {S : List Value} {Z : gZ} {I : gI} {J : gJ} : g_at 131 29 [l0, .int x, l2, l3, l4] S Z I J = g_at 131 30 [l0, .int x, l2, l3, l4] (.int x :: S) Z I J := gq_iload e_131_29 rfl
theorem e_131_30 : g_Pg 131 30 = ga_callV 7 130 1 33 := (congrFun pg_131 30).trans rfl
theorem q_131_30 {L : List Value} {a0 : Int32} {a1 : Nat} {Z : gZ} {I : gI} {J : gJ} (h : (gKd Z a1).1 = 7) : g_at 131 30 L [.int a0, .ref a1] Z I J = (g_at 130 0 [.ref a1, .int a0, .null, .null, .null] [] Z I J).bind (fun r => g_at 131 33 L (r.1.toList ++ []) r.2.1 r.2.2.1 r.2.2.2) := gq_callV e_131_30 rfl rfl h rfl rfl rfl rfl rfl
theorem e_131_33 : g_Pg 131 33 = ga_if (fun x => decide (x = 0)) 40 36 := (congrFun pg_131 33).trans rfl
theorem q_131_33 {L : List Value} {x : Int32} {S : List Value} {Z : gZ} {I : gI} {J : gJ} : g_at 131 33 L (.int x :: S) Z I J = if x = 0 then g_at 131 40 L S Z I J else g_at 131 36 L S Z I J := gq_if e_131_33 rfl
theorem e_131_36 : g_Pg 131 36 = ga_push (.int 1) 37 := (congrFun pg_131 36).trans rfl
theorem q_131_36 {L : List Value} {S : List Value} {Z : gZ} {I : gI} {J : gJ} : g_at 131 36 L S Z I J = g_at 131 37 L (.int 1 :: S) Z I J := gq_push e_131_36
theorem e_131_37 : g_Pg 131 37 = ga_goto 41 := (congrFun pg_131 37).trans rfl
theorem q_131_37 {L : List Value} {S : List Value} {Z : gZ} {I : gI} {J : gJ} : g_at 131 37 L S Z I J = g_at 131 41 L S Z I J := gq_goto e_131_37
theorem e_131_40 : g_Pg 131 40 = ga_push (.int 0) 41 := (congrFun pg_131 40).trans rfl
theorem q_131_40 {L : List Value} {S : List Value} {Z : gZ} {I : gI} {J : gJ} : g_at 131 40 L S Z I J = g_at 131 41 L (.int 0 :: S) Z I J := gq_push e_131_40
theorem e_131_41 : g_Pg 131 41 = ga_iret := (congrFun pg_131 41).trans rfl
theorem q_131_41 {L : List Value} {x : Int32} {Z : gZ} {I : gI} {J : gJ} : g_at 131 41 L [.int x] Z I J = some (some (.int x), Z, I, J) := gq_iret e_131_41
theorem e_131_42 : g_Pg 131 42 = ga_push (.int 0) 43 := (congrFun pg_131 42).trans rfl
theorem q_131_42 {L : List Value} {S : List Value} {Z : gZ} {I : gI} {J : gJ} : g_at 131 42 L S Z I J = g_at 131 43 L (.int 0 :: S) Z I J := gq_push e_131_42
theorem e_131_43 : g_Pg 131 43 = ga_istore 3 44 := (congrFun pg_131 43).trans rfl
theorem q_131_43 {l0 l1 l2 l3 l4 : Value} {x : Int32} {S : List Value} {Z : gZ} {I : gI} {J : gJ} (h : gN1 l2 = true) : g_at 131 43 [l0, l1, l2, l3, l4] (.int x :: S) Z I J = g_at 131 44 [l0, l1, l2, .int x, l4] S Z I J := gq_istore e_131_43 h rfl rfl
theorem e_131_44 : g_Pg 131 44 = ga_push (.int 0) 45 := (congrFun pg_131 44).trans rfl
theorem q_131_44 {L : List Value} {S : List Value} {Z : gZ} {I : gI} {J : gJ} : g_at 131 44 L S Z I J = g_at 131 45 L (.int 0 :: S) Z I J := gq_push e_131_44
theorem e_131_45 : g_Pg 131 45 = ga_istore 4 47 := (congrFun pg_131 45).trans rfl
theorem q_131_45 {l0 l1 l2 l3 l4 : Value} {x : Int32} {S : List Value} {Z : gZ} {I : gI} {J : gJ} (h : gN1 l3 = true) : g_at 131 45 [l0, l1, l2, l3, l4] (.int x :: S) Z I J = g_at 131 47 [l0, l1, l2, l3, .int x] S Z I J := gq_istore e_131_45 h rfl rfl
theorem e_131_47 : g_Pg 131 47 = ga_iload 4 49 := (congrFun pg_131 47).trans rfl
theorem q_131_47 {l0 l1 l2 l3 : Value} {x : Int32} {S : List Value} {Z : gZ} {I : gI} {J : gJ} : g_at 131 47 [l0, l1, l2, l3, .int x] S Z I J = g_at 131 49 [l0, l1, l2, l3, .int x] (.int x :: S) Z I J := gq_iload e_131_47 rfl
theorem e_131_49 : g_Pg 131 49 = ga_aload 0 50 := (congrFun pg_131 49).trans rfl
theorem q_131_49 {l1 l2 l3 l4 : Value} {x : Nat} {S : List Value} {Z : gZ} {I : gI} {J : gJ} : g_at 131 49 [.ref x, l1, l2, l3, l4] S Z I J = g_at 131 50 [.ref x, l1, l2, l3, l4] (.ref x :: S) Z I J := gq_aload e_131_49 rfl
theorem e_131_50 : g_Pg 131 50 = ga_getI 7 0 53 := (congrFun pg_131 50).trans rfl
theorem q_131_50 {L : List Value} {a : Nat} {S : List Value} {Z : gZ} {I : gI} {J : gJ} (h : (gKd Z a).1 = 7) : g_at 131 50 L (.ref a :: S) Z I J = g_at 131 53 L (.int (I a 0) :: S) Z I J := gq_getI e_131_50 h
theorem e_131_53 : g_Pg 131 53 = ga_cmp (fun x y => decide (y ≤ x)) 93 56 := (congrFun pg_131 53).trans rfl
theorem q_131_53 {L : List Value} {x y : Int32} {S : List Value} {Z : gZ} {I : gI} {J : gJ} : g_at 131 53 L (.int y :: .int x :: S) Z I J = if y ≤ x then g_at 131 93 L S Z I J else g_at 131 56 L S Z I J := gq_cmp e_131_53 rfl
theorem e_131_56 : g_Pg 131 56 = ga_aload 0 57 := (congrFun pg_131 56).trans rfl
theorem q_131_56 {l1 l2 l3 l4 : Value} {x : Nat} {S : List Value} {Z : gZ} {I : gI} {J : gJ} : g_at 131 56 [.ref x, l1, l2, l3, l4] S Z I J = g_at 131 57 [.ref x, l1, l2, l3, l4] (.ref x :: S) Z I J := gq_aload e_131_56 rfl
theorem e_131_57 : g_Pg 131 57 = ga_iload 4 59 := (congrFun pg_131 57).trans rfl
theorem q_131_57 {l0 l1 l2 l3 : Value} {x : Int32} {S : List Value} {Z : gZ} {I : gI} {J : gJ} : g_at 131 57 [l0, l1, l2, l3, .int x] S Z I J = g_at 131 59 [l0, l1, l2, l3, .int x] (.int x :: S) Z I J := gq_iload e_131_57 rfl
theorem e_131_59 : g_Pg 131 59 = ga_putI 7 27 62 := (congrFun pg_131 59).trans rfl
theorem q_131_59 {L : List Value} {a : Nat} {v : Int32} {S : List Value} {Z : gZ} {I : gI} {J : gJ} (h : (gKd Z a).1 = 7) : g_at 131 59 L (.int v :: .ref a :: S) Z I J = g_at 131 62 L S Z (va_up I a (va_up (I a) 27 v)) J := gq_putI e_131_59 h
theorem e_131_62 : g_Pg 131 62 = ga_iload 3 63 := (congrFun pg_131 62).trans rfl
theorem q_131_62 {l0 l1 l2 l4 : Value} {x : Int32} {S : List Value} {Z : gZ} {I : gI} {J : gJ} : g_at 131 62 [l0, l1, l2, .int x, l4] S Z I J = g_at 131 63 [l0, l1, l2, .int x, l4] (.int x :: S) Z I J := gq_iload e_131_62 rfl
theorem e_131_63 : g_Pg 131 63 = ga_iload 4 65 := (congrFun pg_131 63).trans rfl
theorem q_131_63 {l0 l1 l2 l3 : Value} {x : Int32} {S : List Value} {Z : gZ} {I : gI} {J : gJ} : g_at 131 63 [l0, l1, l2, l3, .int x] S Z I J = g_at 131 65 [l0, l1, l2, l3, .int x] (.int x :: S) Z I J := gq_iload e_131_63 rfl
theorem e_131_65 : g_Pg 131 65 = ga_iload 1 66 := (congrFun pg_131 65).trans rfl
theorem q_131_65 {l0 l2 l3 l4 : Value} {x : Int32} {S : List Value} {Z : gZ} {I : gI} {J : gJ} : g_at 131 65 [l0, .int x, l2, l3, l4] S Z I J = g_at 131 66 [l0, .int x, l2, l3, l4] (.int x :: S) Z I J := gq_iload e_131_65 rfl
theorem e_131_66 : g_Pg 131 66 = ga_cmp (fun x y => decide (x = y)) 84 69 := (congrFun pg_131 66).trans rfl
theorem q_131_66 {L : List Value} {x y : Int32} {S : List Value} {Z : gZ} {I : gI} {J : gJ} : g_at 131 66 L (.int y :: .int x :: S) Z I J = if x = y then g_at 131 84 L S Z I J else g_at 131 69 L S Z I J := gq_cmp e_131_66 rfl
theorem e_131_69 : g_Pg 131 69 = ga_aload 0 70 := (congrFun pg_131 69).trans rfl
theorem q_131_69 {l1 l2 l3 l4 : Value} {x : Nat} {S : List Value} {Z : gZ} {I : gI} {J : gJ} : g_at 131 69 [.ref x, l1, l2, l3, l4] S Z I J = g_at 131 70 [.ref x, l1, l2, l3, l4] (.ref x :: S) Z I J := gq_aload e_131_69 rfl
theorem e_131_70 : g_Pg 131 70 = ga_iload 1 71 := (congrFun pg_131 70).trans rfl
theorem q_131_70 {l0 l2 l3 l4 : Value} {x : Int32} {S : List Value} {Z : gZ} {I : gI} {J : gJ} : g_at 131 70 [l0, .int x, l2, l3, l4] S Z I J = g_at 131 71 [l0, .int x, l2, l3, l4] (.int x :: S) Z I J := gq_iload e_131_70 rfl
theorem e_131_71 : g_Pg 131 71 = ga_callV 7 130 1 74 := (congrFun pg_131 71).trans rfl
theorem q_131_71 {L : List Value} {a0 : Int32} {a1 : Nat} {r2 : Int32} {Z : gZ} {I : gI} {J : gJ} (h : (gKd Z a1).1 = 7) : g_at 131 71 L [.int a0, .ref a1, .int r2] Z I J = (g_at 130 0 [.ref a1, .int a0, .null, .null, .null] [] Z I J).bind (fun r => g_at 131 74 L (r.1.toList ++ [.int r2]) r.2.1 r.2.2.1 r.2.2.2) := gq_callV e_131_71 rfl rfl h rfl rfl rfl rfl rfl
theorem e_131_74 : g_Pg 131 74 = ga_if (fun x => decide (x = 0)) 84 77 := (congrFun pg_131 74).trans rfl
theorem q_131_74 {L : List Value} {x : Int32} {S : List Value} {Z : gZ} {I : gI} {J : gJ} : g_at 131 74 L (.int x :: S) Z I J = if x = 0 then g_at 131 84 L S Z I J else g_at 131 77 L S Z I J := gq_if e_131_74 rfl
theorem e_131_77 : g_Pg 131 77 = ga_push (.int 1) 78 := (congrFun pg_131 77).trans rfl
theorem q_131_77 {L : List Value} {S : List Value} {Z : gZ} {I : gI} {J : gJ} : g_at 131 77 L S Z I J = g_at 131 78 L (.int 1 :: S) Z I J := gq_push e_131_77
theorem e_131_78 : g_Pg 131 78 = ga_iload 4 80 := (congrFun pg_131 78).trans rfl
theorem q_131_78 {l0 l1 l2 l3 : Value} {x : Int32} {S : List Value} {Z : gZ} {I : gI} {J : gJ} : g_at 131 78 [l0, l1, l2, l3, .int x] S Z I J = g_at 131 80 [l0, l1, l2, l3, .int x] (.int x :: S) Z I J := gq_iload e_131_78 rfl
theorem e_131_80 : g_Pg 131 80 = ga_bin (fun x y => x <<< (y &&& 31)) 81 := (congrFun pg_131 80).trans rfl
theorem q_131_80 {L : List Value} {x y : Int32} {S : List Value} {Z : gZ} {I : gI} {J : gJ} : g_at 131 80 L (.int y :: .int x :: S) Z I J = g_at 131 81 L (.int (x <<< (y &&& 31)) :: S) Z I J := gq_bin e_131_80
theorem e_131_81 : g_Pg 131 81 = ga_goto 85 := (congrFun pg_131 81).trans rfl
theorem q_131_81 {L : List Value} {S : List Value} {Z : gZ} {I : gI} {J : gJ} : g_at 131 81 L S Z I J = g_at 131 85 L S Z I J := gq_goto e_131_81
theorem e_131_84 : g_Pg 131 84 = ga_push (.int 0) 85 := (congrFun pg_131 84).trans rfl
theorem q_131_84 {L : List Value} {S : List Value} {Z : gZ} {I : gI} {J : gJ} : g_at 131 84 L S Z I J = g_at 131 85 L (.int 0 :: S) Z I J := gq_push e_131_84
theorem e_131_85 : g_Pg 131 85 = ga_bin (fun x y => x ||| y) 86 := (congrFun pg_131 85).trans rfl
theorem q_131_85 {L : List Value} {x y : Int32} {S : List Value} {Z : gZ} {I : gI} {J : gJ} : g_at 131 85 L (.int y :: .int x :: S) Z I J = g_at 131 86 L (.int (x ||| y) :: S) Z I J := gq_bin e_131_85
theorem e_131_86 : g_Pg 131 86 = ga_istore 3 87 := (congrFun pg_131 86).trans rfl
theorem q_131_86 {l0 l1 l2 l3 l4 : Value} {x : Int32} {S : List Value} {Z : gZ} {I : gI} {J : gJ} (h : gN1 l2 = true) : g_at 131 86 [l0, l1, l2, l3, l4] (.int x :: S) Z I J = g_at 131 87 [l0, l1, l2, .int x, l4] S Z I J := gq_istore e_131_86 h rfl rfl
theorem e_131_87 : g_Pg 131 87 = ga_iinc 4 1 90 := (congrFun pg_131 87).trans rfl
theorem q_131_87 {l0 l1 l2 l3 : Value} {x : Int32} {S : List Value} {Z : gZ} {I : gI} {J : gJ} (h : gN1 l3 = true) : g_at 131 87 [l0, l1, l2, l3, .int x] S Z I J = g_at 131 90 [l0, l1, l2, l3, .int (x + 1)] S Z I J := gq_iinc e_131_87 rfl h rfl
theorem e_131_90 : g_Pg 131 90 = ga_goto 47 := (congrFun pg_131 90).trans rfl
theorem q_131_90 {L : List Value} {S : List Value} {Z : gZ} {I : gI} {J : gJ} : g_at 131 90 L S Z I J = g_at 131 47 L S Z I J := gq_goto e_131_90
theorem e_131_93 : g_Pg 131 93 = ga_aload 0 94 := (congrFun pg_131 93).trans rfl
theorem q_131_93 {l1 l2 l3 l4 : Value} {x : Nat} {S : List Value} {Z : gZ} {I : gI} {J : gJ} : g_at 131 93 [.ref x, l1, l2, l3, l4] S Z I J = g_at 131 94 [.ref x, l1, l2, l3, l4] (.ref x :: S) Z I J := gq_aload e_131_93 rfl
theorem e_131_94 : g_Pg 131 94 = ga_push (.int (-1)) 95 := (congrFun pg_131 94).trans rfl
theorem q_131_94 {L : List Value} {S : List Value} {Z : gZ} {I : gI} {J : gJ} : g_at 131 94 L S Z I J = g_at 131 95 L (.int (-1) :: S) Z I J := gq_push e_131_94
theorem e_131_95 : g_Pg 131 95 = ga_putI 7 27 98 := (congrFun pg_131 95).trans rfl
theorem q_131_95 {L : List Value} {a : Nat} {v : Int32} {S : List Value} {Z : gZ} {I : gI} {J : gJ} (h : (gKd Z a).1 = 7) : g_at 131 95 L (.int v :: .ref a :: S) Z I J = g_at 131 98 L S Z (va_up I a (va_up (I a) 27 v)) J := gq_putI e_131_95 h
theorem e_131_98 : g_Pg 131 98 = ga_iload 3 99 := (congrFun pg_131 98).trans rfl
theorem q_131_98 {l0 l1 l2 l4 : Value} {x : Int32} {S : List Value} {Z : gZ} {I : gI} {J : gJ} : g_at 131 98 [l0, l1, l2, .int x, l4] S Z I J = g_at 131 99 [l0, l1, l2, .int x, l4] (.int x :: S) Z I J := gq_iload e_131_98 rfl
theorem e_131_99 : g_Pg 131 99 = ga_iret := (congrFun pg_131 99).trans rfl
theorem q_131_99 {L : List Value} {x : Int32} {Z : gZ} {I : gI} {J : gJ} : g_at 131 99 L [.int x] Z I J = some (some (.int x), Z, I, J) := gq_iret e_131_99
theorem e_132_0 : g_Pg 132 0 = ga_push (.int 0) 1 := (congrFun pg_132 0).trans rfl
theorem q_132_0 {L : List Value} {S : List Value} {Z : gZ} {I : gI} {J : gJ} : g_at 132 0 L S Z I J = g_at 132 1 L (.int 0 :: S) Z I J := gq_push e_132_0
theorem e_132_1 : g_Pg 132 1 = ga_istore 2 2 := (congrFun pg_132 1).trans rfl
theorem q_132_1 {l0 l1 l2 l3 l4 : Value} {x : Int32} {S : List Value} {Z : gZ} {I : gI} {J : gJ} (h : gN1 l1 = true) : g_at 132 1 [l0, l1, l2, l3, l4] (.int x :: S) Z I J = g_at 132 2 [l0, l1, .int x, l3, l4] S Z I J := gq_istore e_132_1 h rfl rfl
theorem e_132_2 : g_Pg 132 2 = ga_push (.int 0) 3 := (congrFun pg_132 2).trans rfl
theorem q_132_2 {L : List Value} {S : List Value} {Z : gZ} {I : gI} {J : gJ} : g_at 132 2 L S Z I J = g_at 132 3 L (.int 0 :: S) Z I J := gq_push e_132_2
theorem e_132_3 : g_Pg 132 3 = ga_istore 3 4 := (congrFun pg_132 3).trans rfl
theorem q_132_3 {l0 l1 l2 l3 l4 : Value} {x : Int32} {S : List Value} {Z : gZ} {I : gI} {J : gJ} (h : gN1 l2 = true) : g_at 132 3 [l0, l1, l2, l3, l4] (.int x :: S) Z I J = g_at 132 4 [l0, l1, l2, .int x, l4] S Z I J := gq_istore e_132_3 h rfl rfl
theorem e_132_4 : g_Pg 132 4 = ga_push (.int 0) 5 := (congrFun pg_132 4).trans rfl
theorem q_132_4 {L : List Value} {S : List Value} {Z : gZ} {I : gI} {J : gJ} : g_at 132 4 L S Z I J = g_at 132 5 L (.int 0 :: S) Z I J := gq_push e_132_4
theorem e_132_5 : g_Pg 132 5 = ga_istore 4 7 := (congrFun pg_132 5).trans rfl
theorem q_132_5 {l0 l1 l2 l3 l4 : Value} {x : Int32} {S : List Value} {Z : gZ} {I : gI} {J : gJ} (h : gN1 l3 = true) : g_at 132 5 [l0, l1, l2, l3, l4] (.int x :: S) Z I J = g_at 132 7 [l0, l1, l2, l3, .int x] S Z I J := gq_istore e_132_5 h rfl rfl
theorem e_132_7 : g_Pg 132 7 = ga_iload 4 9 := (congrFun pg_132 7).trans rfl
theorem q_132_7 {l0 l1 l2 l3 : Value} {x : Int32} {S : List Value} {Z : gZ} {I : gI} {J : gJ} : g_at 132 7 [l0, l1, l2, l3, .int x] S Z I J = g_at 132 9 [l0, l1, l2, l3, .int x] (.int x :: S) Z I J := gq_iload e_132_7 rfl
theorem e_132_9 : g_Pg 132 9 = ga_aload 0 10 := (congrFun pg_132 9).trans rfl
theorem q_132_9 {l1 l2 l3 l4 : Value} {x : Nat} {S : List Value} {Z : gZ} {I : gI} {J : gJ} : g_at 132 9 [.ref x, l1, l2, l3, l4] S Z I J = g_at 132 10 [.ref x, l1, l2, l3, l4] (.ref x :: S) Z I J := gq_aload e_132_9 rfl
theorem e_132_10 : g_Pg 132 10 = ga_getI 7 0 13 := (congrFun pg_132 10).trans rfl
theorem q_132_10 {L : List Value} {a : Nat} {S : List Value} {Z : gZ} {I : gI} {J : gJ} (h : (gKd Z a).1 = 7) : g_at 132 10 L (.ref a :: S) Z I J = g_at 132 13 L (.int (I a 0) :: S) Z I J := gq_getI e_132_10 h
theorem e_132_13 : g_Pg 132 13 = ga_cmp (fun x y => decide (y ≤ x)) 55 16 := (congrFun pg_132 13).trans rfl
theorem q_132_13 {L : List Value} {x y : Int32} {S : List Value} {Z : gZ} {I : gI} {J : gJ} : g_at 132 13 L (.int y :: .int x :: S) Z I J = if y ≤ x then g_at 132 55 L S Z I J else g_at 132 16 L S Z I J := gq_cmp e_132_13 rfl
theorem e_132_16 : g_Pg 132 16 = ga_iload 2 17 := (congrFun pg_132 16).trans rfl
theorem q_132_16 {l0 l1 l3 l4 : Value} {x : Int32} {S : List Value} {Z : gZ} {I : gI} {J : gJ} : g_at 132 16 [l0, l1, .int x, l3, l4] S Z I J = g_at 132 17 [l0, l1, .int x, l3, l4] (.int x :: S) Z I J := gq_iload e_132_16 rfl
theorem e_132_17 : g_Pg 132 17 = ga_aload 0 18 := (congrFun pg_132 17).trans rfl
theorem q_132_17 {l1 l2 l3 l4 : Value} {x : Nat} {S : List Value} {Z : gZ} {I : gI} {J : gJ} : g_at 132 17 [.ref x, l1, l2, l3, l4] S Z I J = g_at 132 18 [.ref x, l1, l2, l3, l4] (.ref x :: S) Z I J := gq_aload e_132_17 rfl
theorem e_132_18 : g_Pg 132 18 = ga_getR 7 18 21 := (congrFun pg_132 18).trans rfl
theorem q_132_18 {L : List Value} {a : Nat} {S : List Value} {Z : gZ} {I : gI} {J : gJ} (h : (gKd Z a).1 = 7) (h1 : gRs Z a 18 = true) : g_at 132 18 L (.ref a :: S) Z I J = g_at 132 21 L (.ref (gRq Z a 18) :: S) Z I J := gq_getR e_132_18 h h1
theorem e_132_21 : g_Pg 132 21 = ga_iload 4 23 := (congrFun pg_132 21).trans rfl
theorem q_132_21 {l0 l1 l2 l3 : Value} {x : Int32} {S : List Value} {Z : gZ} {I : gI} {J : gJ} : g_at 132 21 [l0, l1, l2, l3, .int x] S Z I J = g_at 132 23 [l0, l1, l2, l3, .int x] (.int x :: S) Z I J := gq_iload e_132_21 rfl
theorem e_132_23 : g_Pg 132 23 = ga_lald 24 := (congrFun pg_132 23).trans rfl
theorem q_132_23 {L : List Value} {a : Nat} {i : Int32} {S : List Value} {Z : gZ} {I : gI} {J : gJ} (h : (gKd Z a).1 = 10) (h0 : 0 ≤ i) (h1 : i.toNatClampNeg < (gKd Z a).2) : g_at 132 23 L (.int i :: .ref a :: S) Z I J = g_at 132 24 L (.long (J a i.toNatClampNeg) :: S) Z I J := gq_lald e_132_23 h h0 h1
theorem e_132_24 : g_Pg 132 24 = ga_push (.long 0) 25 := (congrFun pg_132 24).trans rfl
theorem q_132_24 {L : List Value} {S : List Value} {Z : gZ} {I : gI} {J : gJ} : g_at 132 24 L S Z I J = g_at 132 25 L (.long 0 :: S) Z I J := gq_push e_132_24
theorem e_132_25 : g_Pg 132 25 = ga_lcmp 26 := (congrFun pg_132 25).trans rfl
theorem q_132_25 {L : List Value} {x y : Int64} {S : List Value} {Z : gZ} {I : gI} {J : gJ} : g_at 132 25 L (.long y :: .long x :: S) Z I J = g_at 132 26 L (.int (lg_cmp x y) :: S) Z I J := gq_lcmp e_132_25
theorem e_132_26 : g_Pg 132 26 = ga_if (fun x => decide (x = 0)) 36 29 := (congrFun pg_132 26).trans rfl
theorem q_132_26 {L : List Value} {x : Int32} {S : List Value} {Z : gZ} {I : gI} {J : gJ} : g_at 132 26 L (.int x :: S) Z I J = if x = 0 then g_at 132 36 L S Z I J else g_at 132 29 L S Z I J := gq_if e_132_26 rfl
theorem e_132_29 : g_Pg 132 29 = ga_push (.int 1) 30 := (congrFun pg_132 29).trans rfl
theorem q_132_29 {L : List Value} {S : List Value} {Z : gZ} {I : gI} {J : gJ} : g_at 132 29 L S Z I J = g_at 132 30 L (.int 1 :: S) Z I J := gq_push e_132_29
theorem e_132_30 : g_Pg 132 30 = ga_iload 4 32 := (congrFun pg_132 30).trans rfl
theorem q_132_30 {l0 l1 l2 l3 : Value} {x : Int32} {S : List Value} {Z : gZ} {I : gI} {J : gJ} : g_at 132 30 [l0, l1, l2, l3, .int x] S Z I J = g_at 132 32 [l0, l1, l2, l3, .int x] (.int x :: S) Z I J := gq_iload e_132_30 rfl
theorem e_132_32 : g_Pg 132 32 = ga_bin (fun x y => x <<< (y &&& 31)) 33 := (congrFun pg_132 32).trans rfl
theorem q_132_32 {L : List Value} {x y : Int32} {S : List Value} {Z : gZ} {I : gI} {J : gJ} : g_at 132 32 L (.int y :: .int x :: S) Z I J = g_at 132 33 L (.int (x <<< (y &&& 31)) :: S) Z I J := gq_bin e_132_32
theorem e_132_33 : g_Pg 132 33 = ga_goto 37 := (congrFun pg_132 33).trans rfl
theorem q_132_33 {L : List Value} {S : List Value} {Z : gZ} {I : gI} {J : gJ} : g_at 132 33 L S Z I J = g_at 132 37 L S Z I J := gq_goto e_132_33
theorem e_132_36 : g_Pg 132 36 = ga_push (.int 0) 37 := (congrFun pg_132 36).trans rfl
theorem q_132_36 {L : List Value} {S : List Value} {Z : gZ} {I : gI} {J : gJ} : g_at 132 36 L S Z I J = g_at 132 37 L (.int 0 :: S) Z I J := gq_push e_132_36
theorem e_132_37 : g_Pg 132 37 = ga_bin (fun x y => x ||| y) 38 := (congrFun pg_132 37).trans rfl
theorem q_132_37 {L : List Value} {x y : Int32} {S : List Value} {Z : gZ} {I : gI} {J : gJ} : g_at 132 37 L (.int y :: .int x :: S) Z I J = g_at 132 38 L (.int (x ||| y) :: S) Z I J := gq_bin e_132_37
theorem e_132_38 : g_Pg 132 38 = ga_istore 2 39 := (congrFun pg_132 38).trans rfl
theorem q_132_38 {l0 l1 l2 l3 l4 : Value} {x : Int32} {S : List Value} {Z : gZ} {I : gI} {J : gJ} (h : gN1 l1 = true) : g_at 132 38 [l0, l1, l2, l3, l4] (.int x :: S) Z I J = g_at 132 39 [l0, l1, .int x, l3, l4] S Z I J := gq_istore e_132_38 h rfl rfl
theorem e_132_39 : g_Pg 132 39 = ga_iload 3 40 := (congrFun pg_132 39).trans rfl
theorem q_132_39 {l0 l1 l2 l4 : Value} {x : Int32} {S : List Value} {Z : gZ} {I : gI} {J : gJ} : g_at 132 39 [l0, l1, l2, .int x, l4] S Z I J = g_at 132 40 [l0, l1, l2, .int x, l4] (.int x :: S) Z I J := gq_iload e_132_39 rfl
theorem e_132_40 : g_Pg 132 40 = ga_aload 0 41 := (congrFun pg_132 40).trans rfl
theorem q_132_40 {l1 l2 l3 l4 : Value} {x : Nat} {S : List Value} {Z : gZ} {I : gI} {J : gJ} : g_at 132 40 [.ref x, l1, l2, l3, l4] S Z I J = g_at 132 41 [.ref x, l1, l2, l3, l4] (.ref x :: S) Z I J := gq_aload e_132_40 rfl
theorem e_132_41 : g_Pg 132 41 = ga_getR 7 19 44 := (congrFun pg_132 41).trans rfl
theorem q_132_41 {L : List Value} {a : Nat} {S : List Value} {Z : gZ} {I : gI} {J : gJ} (h : (gKd Z a).1 = 7) (h1 : gRs Z a 19 = true) : g_at 132 41 L (.ref a :: S) Z I J = g_at 132 44 L (.ref (gRq Z a 19) :: S) Z I J := gq_getR e_132_41 h h1
theorem e_132_44 : g_Pg 132 44 = ga_iload 4 46 := (congrFun pg_132 44).trans rfl
theorem q_132_44 {l0 l1 l2 l3 : Value} {x : Int32} {S : List Value} {Z : gZ} {I : gI} {J : gJ} : g_at 132 44 [l0, l1, l2, l3, .int x] S Z I J = g_at 132 46 [l0, l1, l2, l3, .int x] (.int x :: S) Z I J := gq_iload e_132_44 rfl
theorem e_132_46 : g_Pg 132 46 = ga_iald 47 := (congrFun pg_132 46).trans rfl
theorem q_132_46 {L : List Value} {a : Nat} {i : Int32} {S : List Value} {Z : gZ} {I : gI} {J : gJ} (h : gTg8 (gKd Z a).1 a = true) (h0 : 0 ≤ i) (h1 : i.toNatClampNeg < (gKd Z a).2) : g_at 132 46 L (.int i :: .ref a :: S) Z I J = g_at 132 47 L (.int (I a i.toNatClampNeg) :: S) Z I J := gq_iald e_132_46 h h0 h1
theorem e_132_47 : g_Pg 132 47 = ga_bin (fun x y => x + y) 48 := (congrFun pg_132 47).trans rfl
theorem q_132_47 {L : List Value} {x y : Int32} {S : List Value} {Z : gZ} {I : gI} {J : gJ} : g_at 132 47 L (.int y :: .int x :: S) Z I J = g_at 132 48 L (.int (x + y) :: S) Z I J := gq_bin e_132_47
theorem e_132_48 : g_Pg 132 48 = ga_istore 3 49 := (congrFun pg_132 48).trans rfl
theorem q_132_48 {l0 l1 l2 l3 l4 : Value} {x : Int32} {S : List Value} {Z : gZ} {I : gI} {J : gJ} (h : gN1 l2 = true) : g_at 132 48 [l0, l1, l2, l3, l4] (.int x :: S) Z I J = g_at 132 49 [l0, l1, l2, .int x, l4] S Z I J := gq_istore e_132_48 h rfl rfl
theorem e_132_49 : g_Pg 132 49 = ga_iinc 4 1 52 := (congrFun pg_132 49).trans rfl
theorem q_132_49 {l0 l1 l2 l3 : Value} {x : Int32} {S : List Value} {Z : gZ} {I : gI} {J : gJ} (h : gN1 l3 = true) : g_at 132 49 [l0, l1, l2, l3, .int x] S Z I J = g_at 132 52 [l0, l1, l2, l3, .int (x + 1)] S Z I J := gq_iinc e_132_49 rfl h rfl
theorem e_132_52 : g_Pg 132 52 = ga_goto 7 := (congrFun pg_132 52).trans rfl
theorem q_132_52 {L : List Value} {S : List Value} {Z : gZ} {I : gI} {J : gJ} : g_at 132 52 L S Z I J = g_at 132 7 L S Z I J := gq_goto e_132_52
theorem e_132_55 : g_Pg 132 55 = ga_iload 1 56 := (congrFun pg_132 55).trans rfl
theorem q_132_55 {l0 l2 l3 l4 : Value} {x : Int32} {S : List Value} {Z : gZ} {I : gI} {J : gJ} : g_at 132 55 [l0, .int x, l2, l3, l4] S Z I J = g_at 132 56 [l0, .int x, l2, l3, l4] (.int x :: S) Z I J := gq_iload e_132_55 rfl
theorem e_132_56 : g_Pg 132 56 = ga_switch 0 [100, 105, 110, 115, 117, 119, 124] 129 := (congrFun pg_132 56).trans rfl
theorem q_132_56 {L : List Value} {x : Int32} {S : List Value} {Z : gZ} {I : gI} {J : gJ} : g_at 132 56 L (.int x :: S) Z I J = if x = 0 then g_at 132 100 L S Z I J else if x = 1 then g_at 132 105 L S Z I J else if x = 2 then g_at 132 110 L S Z I J else if x = 3 then g_at 132 115 L S Z I J else if x = 4 then g_at 132 117 L S Z I J else if x = 5 then g_at 132 119 L S Z I J else if x = 6 then g_at 132 124 L S Z I J else g_at 132 129 L S Z I J := (gq_switch e_132_56).trans (gsw_cons (F := fun q => g_at 132 q L S Z I J) (lo := 0) (lo' := 1) (v := 0) rfl rfl (gsw_cons (F := fun q => g_at 132 q L S Z I J) (lo := 1) (lo' := 2) (v := 1) rfl rfl (gsw_cons (F := fun q => g_at 132 q L S Z I J) (lo := 2) (lo' := 3) (v := 2) rfl rfl (gsw_cons (F := fun q => g_at 132 q L S Z I J) (lo := 3) (lo' := 4) (v := 3) rfl rfl (gsw_cons (F := fun q => g_at 132 q L S Z I J) (lo := 4) (lo' := 5) (v := 4) rfl rfl (gsw_cons (F := fun q => g_at 132 q L S Z I J) (lo := 5) (lo' := 6) (v := 5) rfl rfl (gsw_cons (F := fun q => g_at 132 q L S Z I J) (lo := 6) (lo' := 7) (v := 6) rfl rfl rfl)))))))
theorem e_132_100 : g_Pg 132 100 = ga_aload 0 101 := (congrFun pg_132 100).trans rfl
theorem q_132_100 {l1 l2 l3 l4 : Value} {x : Nat} {S : List Value} {Z : gZ} {I : gI} {J : gJ} : g_at 132 100 [.ref x, l1, l2, l3, l4] S Z I J = g_at 132 101 [.ref x, l1, l2, l3, l4] (.ref x :: S) Z I J := gq_aload e_132_100 rfl
theorem e_132_101 : g_Pg 132 101 = ga_getI 7 0 104 := (congrFun pg_132 101).trans rfl
theorem q_132_101 {L : List Value} {a : Nat} {S : List Value} {Z : gZ} {I : gI} {J : gJ} (h : (gKd Z a).1 = 7) : g_at 132 101 L (.ref a :: S) Z I J = g_at 132 104 L (.int (I a 0) :: S) Z I J := gq_getI e_132_101 h
theorem e_132_104 : g_Pg 132 104 = ga_iret := (congrFun pg_132 104).trans rfl
theorem q_132_104 {L : List Value} {x : Int32} {Z : gZ} {I : gI} {J : gJ} : g_at 132 104 L [.int x] Z I J = some (some (.int x), Z, I, J) := gq_iret e_132_104
theorem e_132_105 : g_Pg 132 105 = ga_aload 0 106 := (congrFun pg_132 105).trans rfl
theorem q_132_105 {l1 l2 l3 l4 : Value} {x : Nat} {S : List Value} {Z : gZ} {I : gI} {J : gJ} : g_at 132 105 [.ref x, l1, l2, l3, l4] S Z I J = g_at 132 106 [.ref x, l1, l2, l3, l4] (.ref x :: S) Z I J := gq_aload e_132_105 rfl
theorem e_132_106 : g_Pg 132 106 = ga_getI 7 5 109 := (congrFun pg_132 106).trans rfl
theorem q_132_106 {L : List Value} {a : Nat} {S : List Value} {Z : gZ} {I : gI} {J : gJ} (h : (gKd Z a).1 = 7) : g_at 132 106 L (.ref a :: S) Z I J = g_at 132 109 L (.int (I a 5) :: S) Z I J := gq_getI e_132_106 h
theorem e_132_109 : g_Pg 132 109 = ga_iret := (congrFun pg_132 109).trans rfl
theorem q_132_109 {L : List Value} {x : Int32} {Z : gZ} {I : gI} {J : gJ} : g_at 132 109 L [.int x] Z I J = some (some (.int x), Z, I, J) := gq_iret e_132_109
theorem e_132_110 : g_Pg 132 110 = ga_aload 0 111 := (congrFun pg_132 110).trans rfl
theorem q_132_110 {l1 l2 l3 l4 : Value} {x : Nat} {S : List Value} {Z : gZ} {I : gI} {J : gJ} : g_at 132 110 [.ref x, l1, l2, l3, l4] S Z I J = g_at 132 111 [.ref x, l1, l2, l3, l4] (.ref x :: S) Z I J := gq_aload e_132_110 rfl
theorem e_132_111 : g_Pg 132 111 = ga_getI 7 21 114 := (congrFun pg_132 111).trans rfl
theorem q_132_111 {L : List Value} {a : Nat} {S : List Value} {Z : gZ} {I : gI} {J : gJ} (h : (gKd Z a).1 = 7) : g_at 132 111 L (.ref a :: S) Z I J = g_at 132 114 L (.int (I a 21) :: S) Z I J := gq_getI e_132_111 h
theorem e_132_114 : g_Pg 132 114 = ga_iret := (congrFun pg_132 114).trans rfl
theorem q_132_114 {L : List Value} {x : Int32} {Z : gZ} {I : gI} {J : gJ} : g_at 132 114 L [.int x] Z I J = some (some (.int x), Z, I, J) := gq_iret e_132_114
theorem e_132_115 : g_Pg 132 115 = ga_iload 2 116 := (congrFun pg_132 115).trans rfl
theorem q_132_115 {l0 l1 l3 l4 : Value} {x : Int32} {S : List Value} {Z : gZ} {I : gI} {J : gJ} : g_at 132 115 [l0, l1, .int x, l3, l4] S Z I J = g_at 132 116 [l0, l1, .int x, l3, l4] (.int x :: S) Z I J := gq_iload e_132_115 rfl
theorem e_132_116 : g_Pg 132 116 = ga_iret := (congrFun pg_132 116).trans rfl
theorem q_132_116 {L : List Value} {x : Int32} {Z : gZ} {I : gI} {J : gJ} : g_at 132 116 L [.int x] Z I J = some (some (.int x), Z, I, J) := gq_iret e_132_116
theorem e_132_117 : g_Pg 132 117 = ga_iload 3 118 := (congrFun pg_132 117).trans rfl
theorem q_132_117 {l0 l1 l2 l4 : Value} {x : Int32} {S : List Value} {Z : gZ} {I : gI} {J : gJ} : g_at 132 117 [l0, l1, l2, .int x, l4] S Z I J = g_at 132 118 [l0, l1, l2, .int x, l4] (.int x :: S) Z I J := gq_iload e_132_117 rfl
theorem e_132_118 : g_Pg 132 118 = ga_iret := (congrFun pg_132 118).trans rfl
theorem q_132_118 {L : List Value} {x : Int32} {Z : gZ} {I : gI} {J : gJ} : g_at 132 118 L [.int x] Z I J = some (some (.int x), Z, I, J) := gq_iret e_132_118
theorem e_132_119 : g_Pg 132 119 = ga_aload 0 120 := (congrFun pg_132 119).trans rfl
theorem q_132_119 {l1 l2 l3 l4 : Value} {x : Nat} {S : List Value} {Z : gZ} {I : gI} {J : gJ} : g_at 132 119 [.ref x, l1, l2, l3, l4] S Z I J = g_at 132 120 [.ref x, l1, l2, l3, l4] (.ref x :: S) Z I J := gq_aload e_132_119 rfl
theorem e_132_120 : g_Pg 132 120 = ga_getI 7 24 123 := (congrFun pg_132 120).trans rfl
theorem q_132_120 {L : List Value} {a : Nat} {S : List Value} {Z : gZ} {I : gI} {J : gJ} (h : (gKd Z a).1 = 7) : g_at 132 120 L (.ref a :: S) Z I J = g_at 132 123 L (.int (I a 24) :: S) Z I J := gq_getI e_132_120 h
theorem e_132_123 : g_Pg 132 123 = ga_iret := (congrFun pg_132 123).trans rfl
theorem q_132_123 {L : List Value} {x : Int32} {Z : gZ} {I : gI} {J : gJ} : g_at 132 123 L [.int x] Z I J = some (some (.int x), Z, I, J) := gq_iret e_132_123
theorem e_132_124 : g_Pg 132 124 = ga_aload 0 125 := (congrFun pg_132 124).trans rfl
theorem q_132_124 {l1 l2 l3 l4 : Value} {x : Nat} {S : List Value} {Z : gZ} {I : gI} {J : gJ} : g_at 132 124 [.ref x, l1, l2, l3, l4] S Z I J = g_at 132 125 [.ref x, l1, l2, l3, l4] (.ref x :: S) Z I J := gq_aload e_132_124 rfl
theorem e_132_125 : g_Pg 132 125 = ga_getI 7 7 128 := (congrFun pg_132 125).trans rfl
theorem q_132_125 {L : List Value} {a : Nat} {S : List Value} {Z : gZ} {I : gI} {J : gJ} (h : (gKd Z a).1 = 7) : g_at 132 125 L (.ref a :: S) Z I J = g_at 132 128 L (.int (I a 7) :: S) Z I J := gq_getI e_132_125 h
theorem e_132_128 : g_Pg 132 128 = ga_iret := (congrFun pg_132 128).trans rfl
theorem q_132_128 {L : List Value} {x : Int32} {Z : gZ} {I : gI} {J : gJ} : g_at 132 128 L [.int x] Z I J = some (some (.int x), Z, I, J) := gq_iret e_132_128
theorem e_132_129 : g_Pg 132 129 = ga_push (.int (-3)) 131 := (congrFun pg_132 129).trans rfl
theorem q_132_129 {L : List Value} {S : List Value} {Z : gZ} {I : gI} {J : gJ} : g_at 132 129 L S Z I J = g_at 132 131 L (.int (-3) :: S) Z I J := gq_push e_132_129
theorem e_132_131 : g_Pg 132 131 = ga_iret := (congrFun pg_132 131).trans rfl
theorem q_132_131 {L : List Value} {x : Int32} {Z : gZ} {I : gI} {J : gJ} : g_at 132 131 L [.int x] Z I J = some (some (.int x), Z, I, J) := gq_iret e_132_131
