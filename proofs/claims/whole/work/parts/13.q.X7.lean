theorem e_82_0 : g_Pg 82 0 = ga_aload 0 1 := (congrFun pg_82 0).trans rfl
theorem q_82_0 {x : Nat} {S : List Value} {Z : gZ} {I : gI} {J : gJ} : g_at 82 0 [.ref x] S Z I J = g_at 82 1 [.ref x] (.ref x :: S) Z I J := gq_aload e_82_0 rfl
theorem e_82_1 : g_Pg 82 1 = ga_oinit 4 := (congrFun pg_82 1).trans rfl
theorem q_82_1 {L : List Value} {x : Nat} {Z : gZ} {I : gI} {J : gJ} : g_at 82 1 L [.ref x] Z I J = g_at 82 4 L [] Z I J := gq_oinit e_82_1
theorem e_82_4 : g_Pg 82 4 = ga_aload 0 5 := (congrFun pg_82 4).trans rfl
theorem q_82_4 {x : Nat} {S : List Value} {Z : gZ} {I : gI} {J : gJ} : g_at 82 4 [.ref x] S Z I J = g_at 82 5 [.ref x] (.ref x :: S) Z I J := gq_aload e_82_4 rfl
theorem e_82_5 : g_Pg 82 5 = ga_push (.int 4) 6 := (congrFun pg_82 5).trans rfl
theorem q_82_5 {L : List Value} {S : List Value} {Z : gZ} {I : gI} {J : gJ} : g_at 82 5 L S Z I J = g_at 82 6 L (.int 4 :: S) Z I J := gq_push e_82_5
theorem e_82_6 : g_Pg 82 6 = ga_putI 7 0 9 := (congrFun pg_82 6).trans rfl
theorem q_82_6 {L : List Value} {a : Nat} {v : Int32} {S : List Value} {Z : gZ} {I : gI} {J : gJ} (h : (gKd Z a).1 = 7) : g_at 82 6 L (.int v :: .ref a :: S) Z I J = g_at 82 9 L S Z (va_up I a (va_up (I a) 0 v)) J := gq_putI e_82_6 h
theorem e_82_9 : g_Pg 82 9 = ga_aload 0 10 := (congrFun pg_82 9).trans rfl
theorem q_82_9 {x : Nat} {S : List Value} {Z : gZ} {I : gI} {J : gJ} : g_at 82 9 [.ref x] S Z I J = g_at 82 10 [.ref x] (.ref x :: S) Z I J := gq_aload e_82_9 rfl
theorem e_82_10 : g_Pg 82 10 = ga_push (.int 10) 12 := (congrFun pg_82 10).trans rfl
theorem q_82_10 {L : List Value} {S : List Value} {Z : gZ} {I : gI} {J : gJ} : g_at 82 10 L S Z I J = g_at 82 12 L (.int 10 :: S) Z I J := gq_push e_82_10
theorem e_82_12 : g_Pg 82 12 = ga_newa 8 14 := (congrFun pg_82 12).trans rfl
theorem q_82_12 {L : List Value} {n : Int32} {S : List Value} {Z : gZ} {I : gI} {J : gJ} (h : Z.1 < 1000) (h0 : 0 ≤ n) (h1 : n.toNatClampNeg ≤ 1000) : g_at 82 12 L (.int n :: S) Z I J = g_at 82 14 L (.ref Z.1 :: S) (Z.1 + 1, Z.2.1 + n.toNatClampNeg, va_up Z.2.2.1 Z.1 (8, n.toNatClampNeg), va_up Z.2.2.2 Z.1 (fun _ => none)) (va_up I Z.1 (fun _ => 0)) (va_up J Z.1 (fun _ => 0)) := gq_newa e_82_12 h h0 h1
theorem e_82_14 : g_Pg 82 14 = ga_putR 7 1 17 := (congrFun pg_82 14).trans rfl
theorem q_82_14 {L : List Value} {a v : Nat} {S : List Value} {Z : gZ} {I : gI} {J : gJ} (h : (gKd Z a).1 = 7) : g_at 82 14 L (.ref v :: .ref a :: S) Z I J = g_at 82 17 L S (Z.1, Z.2.1, Z.2.2.1, va_up Z.2.2.2 a (va_up (Z.2.2.2 a) 1 (some v))) I J := gq_putR e_82_14 h
theorem e_82_17 : g_Pg 82 17 = ga_aload 0 18 := (congrFun pg_82 17).trans rfl
theorem q_82_17 {x : Nat} {S : List Value} {Z : gZ} {I : gI} {J : gJ} : g_at 82 17 [.ref x] S Z I J = g_at 82 18 [.ref x] (.ref x :: S) Z I J := gq_aload e_82_17 rfl
theorem e_82_18 : g_Pg 82 18 = ga_push (.int 10) 20 := (congrFun pg_82 18).trans rfl
theorem q_82_18 {L : List Value} {S : List Value} {Z : gZ} {I : gI} {J : gJ} : g_at 82 18 L S Z I J = g_at 82 20 L (.int 10 :: S) Z I J := gq_push e_82_18
theorem e_82_20 : g_Pg 82 20 = ga_newa 8 22 := (congrFun pg_82 20).trans rfl
theorem q_82_20 {L : List Value} {n : Int32} {S : List Value} {Z : gZ} {I : gI} {J : gJ} (h : Z.1 < 1000) (h0 : 0 ≤ n) (h1 : n.toNatClampNeg ≤ 1000) : g_at 82 20 L (.int n :: S) Z I J = g_at 82 22 L (.ref Z.1 :: S) (Z.1 + 1, Z.2.1 + n.toNatClampNeg, va_up Z.2.2.1 Z.1 (8, n.toNatClampNeg), va_up Z.2.2.2 Z.1 (fun _ => none)) (va_up I Z.1 (fun _ => 0)) (va_up J Z.1 (fun _ => 0)) := gq_newa e_82_20 h h0 h1
theorem e_82_22 : g_Pg 82 22 = ga_putR 7 2 25 := (congrFun pg_82 22).trans rfl
theorem q_82_22 {L : List Value} {a v : Nat} {S : List Value} {Z : gZ} {I : gI} {J : gJ} (h : (gKd Z a).1 = 7) : g_at 82 22 L (.ref v :: .ref a :: S) Z I J = g_at 82 25 L S (Z.1, Z.2.1, Z.2.2.1, va_up Z.2.2.2 a (va_up (Z.2.2.2 a) 2 (some v))) I J := gq_putR e_82_22 h
theorem e_82_25 : g_Pg 82 25 = ga_aload 0 26 := (congrFun pg_82 25).trans rfl
theorem q_82_25 {x : Nat} {S : List Value} {Z : gZ} {I : gI} {J : gJ} : g_at 82 25 [.ref x] S Z I J = g_at 82 26 [.ref x] (.ref x :: S) Z I J := gq_aload e_82_25 rfl
theorem e_82_26 : g_Pg 82 26 = ga_push (.int 10) 28 := (congrFun pg_82 26).trans rfl
theorem q_82_26 {L : List Value} {S : List Value} {Z : gZ} {I : gI} {J : gJ} : g_at 82 26 L S Z I J = g_at 82 28 L (.int 10 :: S) Z I J := gq_push e_82_26
theorem e_82_28 : g_Pg 82 28 = ga_newa 8 30 := (congrFun pg_82 28).trans rfl
theorem q_82_28 {L : List Value} {n : Int32} {S : List Value} {Z : gZ} {I : gI} {J : gJ} (h : Z.1 < 1000) (h0 : 0 ≤ n) (h1 : n.toNatClampNeg ≤ 1000) : g_at 82 28 L (.int n :: S) Z I J = g_at 82 30 L (.ref Z.1 :: S) (Z.1 + 1, Z.2.1 + n.toNatClampNeg, va_up Z.2.2.1 Z.1 (8, n.toNatClampNeg), va_up Z.2.2.2 Z.1 (fun _ => none)) (va_up I Z.1 (fun _ => 0)) (va_up J Z.1 (fun _ => 0)) := gq_newa e_82_28 h h0 h1
theorem e_82_30 : g_Pg 82 30 = ga_putR 7 3 33 := (congrFun pg_82 30).trans rfl
theorem q_82_30 {L : List Value} {a v : Nat} {S : List Value} {Z : gZ} {I : gI} {J : gJ} (h : (gKd Z a).1 = 7) : g_at 82 30 L (.ref v :: .ref a :: S) Z I J = g_at 82 33 L S (Z.1, Z.2.1, Z.2.2.1, va_up Z.2.2.2 a (va_up (Z.2.2.2 a) 3 (some v))) I J := gq_putR e_82_30 h
theorem e_82_33 : g_Pg 82 33 = ga_aload 0 34 := (congrFun pg_82 33).trans rfl
theorem q_82_33 {x : Nat} {S : List Value} {Z : gZ} {I : gI} {J : gJ} : g_at 82 33 [.ref x] S Z I J = g_at 82 34 [.ref x] (.ref x :: S) Z I J := gq_aload e_82_33 rfl
theorem e_82_34 : g_Pg 82 34 = ga_push (.int 10) 36 := (congrFun pg_82 34).trans rfl
theorem q_82_34 {L : List Value} {S : List Value} {Z : gZ} {I : gI} {J : gJ} : g_at 82 34 L S Z I J = g_at 82 36 L (.int 10 :: S) Z I J := gq_push e_82_34
theorem e_82_36 : g_Pg 82 36 = ga_newa 8 38 := (congrFun pg_82 36).trans rfl
theorem q_82_36 {L : List Value} {n : Int32} {S : List Value} {Z : gZ} {I : gI} {J : gJ} (h : Z.1 < 1000) (h0 : 0 ≤ n) (h1 : n.toNatClampNeg ≤ 1000) : g_at 82 36 L (.int n :: S) Z I J = g_at 82 38 L (.ref Z.1 :: S) (Z.1 + 1, Z.2.1 + n.toNatClampNeg, va_up Z.2.2.1 Z.1 (8, n.toNatClampNeg), va_up Z.2.2.2 Z.1 (fun _ => none)) (va_up I Z.1 (fun _ => 0)) (va_up J Z.1 (fun _ => 0)) := gq_newa e_82_36 h h0 h1
theorem e_82_38 : g_Pg 82 38 = ga_putR 7 4 41 := (congrFun pg_82 38).trans rfl
theorem q_82_38 {L : List Value} {a v : Nat} {S : List Value} {Z : gZ} {I : gI} {J : gJ} (h : (gKd Z a).1 = 7) : g_at 82 38 L (.ref v :: .ref a :: S) Z I J = g_at 82 41 L S (Z.1, Z.2.1, Z.2.2.1, va_up Z.2.2.2 a (va_up (Z.2.2.2 a) 4 (some v))) I J := gq_putR e_82_38 h
theorem e_82_41 : g_Pg 82 41 = ga_aload 0 42 := (congrFun pg_82 41).trans rfl
theorem q_82_41 {x : Nat} {S : List Value} {Z : gZ} {I : gI} {J : gJ} : g_at 82 41 [.ref x] S Z I J = g_at 82 42 [.ref x] (.ref x :: S) Z I J := gq_aload e_82_41 rfl
theorem e_82_42 : g_Pg 82 42 = ga_push (.int 200) 45 := (congrFun pg_82 42).trans rfl
theorem q_82_42 {L : List Value} {S : List Value} {Z : gZ} {I : gI} {J : gJ} : g_at 82 42 L S Z I J = g_at 82 45 L (.int 200 :: S) Z I J := gq_push e_82_42
theorem e_82_45 : g_Pg 82 45 = ga_newa 8 47 := (congrFun pg_82 45).trans rfl
theorem q_82_45 {L : List Value} {n : Int32} {S : List Value} {Z : gZ} {I : gI} {J : gJ} (h : Z.1 < 1000) (h0 : 0 ≤ n) (h1 : n.toNatClampNeg ≤ 1000) : g_at 82 45 L (.int n :: S) Z I J = g_at 82 47 L (.ref Z.1 :: S) (Z.1 + 1, Z.2.1 + n.toNatClampNeg, va_up Z.2.2.1 Z.1 (8, n.toNatClampNeg), va_up Z.2.2.2 Z.1 (fun _ => none)) (va_up I Z.1 (fun _ => 0)) (va_up J Z.1 (fun _ => 0)) := gq_newa e_82_45 h h0 h1
theorem e_82_47 : g_Pg 82 47 = ga_putR 7 8 50 := (congrFun pg_82 47).trans rfl
theorem q_82_47 {L : List Value} {a v : Nat} {S : List Value} {Z : gZ} {I : gI} {J : gJ} (h : (gKd Z a).1 = 7) : g_at 82 47 L (.ref v :: .ref a :: S) Z I J = g_at 82 50 L S (Z.1, Z.2.1, Z.2.2.1, va_up Z.2.2.2 a (va_up (Z.2.2.2 a) 8 (some v))) I J := gq_putR e_82_47 h
theorem e_82_50 : g_Pg 82 50 = ga_aload 0 51 := (congrFun pg_82 50).trans rfl
theorem q_82_50 {x : Nat} {S : List Value} {Z : gZ} {I : gI} {J : gJ} : g_at 82 50 [.ref x] S Z I J = g_at 82 51 [.ref x] (.ref x :: S) Z I J := gq_aload e_82_50 rfl
theorem e_82_51 : g_Pg 82 51 = ga_push (.int 48) 53 := (congrFun pg_82 51).trans rfl
theorem q_82_51 {L : List Value} {S : List Value} {Z : gZ} {I : gI} {J : gJ} : g_at 82 51 L S Z I J = g_at 82 53 L (.int 48 :: S) Z I J := gq_push e_82_51
theorem e_82_53 : g_Pg 82 53 = ga_newa 8 55 := (congrFun pg_82 53).trans rfl
theorem q_82_53 {L : List Value} {n : Int32} {S : List Value} {Z : gZ} {I : gI} {J : gJ} (h : Z.1 < 1000) (h0 : 0 ≤ n) (h1 : n.toNatClampNeg ≤ 1000) : g_at 82 53 L (.int n :: S) Z I J = g_at 82 55 L (.ref Z.1 :: S) (Z.1 + 1, Z.2.1 + n.toNatClampNeg, va_up Z.2.2.1 Z.1 (8, n.toNatClampNeg), va_up Z.2.2.2 Z.1 (fun _ => none)) (va_up I Z.1 (fun _ => 0)) (va_up J Z.1 (fun _ => 0)) := gq_newa e_82_53 h h0 h1
theorem e_82_55 : g_Pg 82 55 = ga_putR 7 17 58 := (congrFun pg_82 55).trans rfl
theorem q_82_55 {L : List Value} {a v : Nat} {S : List Value} {Z : gZ} {I : gI} {J : gJ} (h : (gKd Z a).1 = 7) : g_at 82 55 L (.ref v :: .ref a :: S) Z I J = g_at 82 58 L S (Z.1, Z.2.1, Z.2.2.1, va_up Z.2.2.2 a (va_up (Z.2.2.2 a) 17 (some v))) I J := gq_putR e_82_55 h
theorem e_82_58 : g_Pg 82 58 = ga_aload 0 59 := (congrFun pg_82 58).trans rfl
theorem q_82_58 {x : Nat} {S : List Value} {Z : gZ} {I : gI} {J : gJ} : g_at 82 58 [.ref x] S Z I J = g_at 82 59 [.ref x] (.ref x :: S) Z I J := gq_aload e_82_58 rfl
theorem e_82_59 : g_Pg 82 59 = ga_push (.int 10) 61 := (congrFun pg_82 59).trans rfl
theorem q_82_59 {L : List Value} {S : List Value} {Z : gZ} {I : gI} {J : gJ} : g_at 82 59 L S Z I J = g_at 82 61 L (.int 10 :: S) Z I J := gq_push e_82_59
theorem e_82_61 : g_Pg 82 61 = ga_newa 10 63 := (congrFun pg_82 61).trans rfl
theorem q_82_61 {L : List Value} {n : Int32} {S : List Value} {Z : gZ} {I : gI} {J : gJ} (h : Z.1 < 1000) (h0 : 0 ≤ n) (h1 : n.toNatClampNeg ≤ 1000) : g_at 82 61 L (.int n :: S) Z I J = g_at 82 63 L (.ref Z.1 :: S) (Z.1 + 1, Z.2.1 + n.toNatClampNeg, va_up Z.2.2.1 Z.1 (10, n.toNatClampNeg), va_up Z.2.2.2 Z.1 (fun _ => none)) (va_up I Z.1 (fun _ => 0)) (va_up J Z.1 (fun _ => 0)) := gq_newa e_82_61 h h0 h1
theorem e_82_63 : g_Pg 82 63 = ga_putR 7 18 66 := (congrFun pg_82 63).trans rfl
theorem q_82_63 {L : List Value} {a v : Nat} {S : List Value} {Z : gZ} {I : gI} {J : gJ} (h : (gKd Z a).1 = 7) : g_at 82 63 L (.ref v :: .ref a :: S) Z I J = g_at 82 66 L S (Z.1, Z.2.1, Z.2.2.1, va_up Z.2.2.2 a (va_up (Z.2.2.2 a) 18 (some v))) I J := gq_putR e_82_63 h
theorem e_82_66 : g_Pg 82 66 = ga_aload 0 67 := (congrFun pg_82 66).trans rfl
theorem q_82_66 {x : Nat} {S : List Value} {Z : gZ} {I : gI} {J : gJ} : g_at 82 66 [.ref x] S Z I J = g_at 82 67 [.ref x] (.ref x :: S) Z I J := gq_aload e_82_66 rfl
theorem e_82_67 : g_Pg 82 67 = ga_push (.int 10) 69 := (congrFun pg_82 67).trans rfl
theorem q_82_67 {L : List Value} {S : List Value} {Z : gZ} {I : gI} {J : gJ} : g_at 82 67 L S Z I J = g_at 82 69 L (.int 10 :: S) Z I J := gq_push e_82_67
theorem e_82_69 : g_Pg 82 69 = ga_newa 8 71 := (congrFun pg_82 69).trans rfl
theorem q_82_69 {L : List Value} {n : Int32} {S : List Value} {Z : gZ} {I : gI} {J : gJ} (h : Z.1 < 1000) (h0 : 0 ≤ n) (h1 : n.toNatClampNeg ≤ 1000) : g_at 82 69 L (.int n :: S) Z I J = g_at 82 71 L (.ref Z.1 :: S) (Z.1 + 1, Z.2.1 + n.toNatClampNeg, va_up Z.2.2.1 Z.1 (8, n.toNatClampNeg), va_up Z.2.2.2 Z.1 (fun _ => none)) (va_up I Z.1 (fun _ => 0)) (va_up J Z.1 (fun _ => 0)) := gq_newa e_82_69 h h0 h1
theorem e_82_71 : g_Pg 82 71 = ga_putR 7 19 74 := (congrFun pg_82 71).trans rfl
theorem q_82_71 {L : List Value} {a v : Nat} {S : List Value} {Z : gZ} {I : gI} {J : gJ} (h : (gKd Z a).1 = 7) : g_at 82 71 L (.ref v :: .ref a :: S) Z I J = g_at 82 74 L S (Z.1, Z.2.1, Z.2.2.1, va_up Z.2.2.2 a (va_up (Z.2.2.2 a) 19 (some v))) I J := gq_putR e_82_71 h
theorem e_82_74 : g_Pg 82 74 = ga_aload 0 75 := (congrFun pg_82 74).trans rfl
theorem q_82_74 {x : Nat} {S : List Value} {Z : gZ} {I : gI} {J : gJ} : g_at 82 74 [.ref x] S Z I J = g_at 82 75 [.ref x] (.ref x :: S) Z I J := gq_aload e_82_74 rfl
theorem e_82_75 : g_Pg 82 75 = ga_push (.int 46) 77 := (congrFun pg_82 75).trans rfl
theorem q_82_75 {L : List Value} {S : List Value} {Z : gZ} {I : gI} {J : gJ} : g_at 82 75 L S Z I J = g_at 82 77 L (.int 46 :: S) Z I J := gq_push e_82_75
theorem e_82_77 : g_Pg 82 77 = ga_newa 10 79 := (congrFun pg_82 77).trans rfl
theorem q_82_77 {L : List Value} {n : Int32} {S : List Value} {Z : gZ} {I : gI} {J : gJ} (h : Z.1 < 1000) (h0 : 0 ≤ n) (h1 : n.toNatClampNeg ≤ 1000) : g_at 82 77 L (.int n :: S) Z I J = g_at 82 79 L (.ref Z.1 :: S) (Z.1 + 1, Z.2.1 + n.toNatClampNeg, va_up Z.2.2.1 Z.1 (10, n.toNatClampNeg), va_up Z.2.2.2 Z.1 (fun _ => none)) (va_up I Z.1 (fun _ => 0)) (va_up J Z.1 (fun _ => 0)) := gq_newa e_82_77 h h0 h1
theorem e_82_79 : g_Pg 82 79 = ga_putR 7 22 82 := (congrFun pg_82 79).trans rfl
theorem q_82_79 {L : List Value} {a v : Nat} {S : List Value} {Z : gZ} {I : gI} {J : gJ} (h : (gKd Z a).1 = 7) : g_at 82 79 L (.ref v :: .ref a :: S) Z I J = g_at 82 82 L S (Z.1, Z.2.1, Z.2.2.1, va_up Z.2.2.2 a (va_up (Z.2.2.2 a) 22 (some v))) I J := gq_putR e_82_79 h
theorem e_82_82 : g_Pg 82 82 = ga_aload 0 83 := (congrFun pg_82 82).trans rfl
theorem q_82_82 {x : Nat} {S : List Value} {Z : gZ} {I : gI} {J : gJ} : g_at 82 82 [.ref x] S Z I J = g_at 82 83 [.ref x] (.ref x :: S) Z I J := gq_aload e_82_82 rfl
theorem e_82_83 : g_Pg 82 83 = ga_push (.int 2) 84 := (congrFun pg_82 83).trans rfl
theorem q_82_83 {L : List Value} {S : List Value} {Z : gZ} {I : gI} {J : gJ} : g_at 82 83 L S Z I J = g_at 82 84 L (.int 2 :: S) Z I J := gq_push e_82_83
theorem e_82_84 : g_Pg 82 84 = ga_newa 9 86 := (congrFun pg_82 84).trans rfl
theorem q_82_84 {L : List Value} {n : Int32} {S : List Value} {Z : gZ} {I : gI} {J : gJ} (h : Z.1 < 1000) (h0 : 0 ≤ n) (h1 : n.toNatClampNeg ≤ 1000) : g_at 82 84 L (.int n :: S) Z I J = g_at 82 86 L (.ref Z.1 :: S) (Z.1 + 1, Z.2.1 + n.toNatClampNeg, va_up Z.2.2.1 Z.1 (9, n.toNatClampNeg), va_up Z.2.2.2 Z.1 (fun _ => none)) (va_up I Z.1 (fun _ => 0)) (va_up J Z.1 (fun _ => 0)) := gq_newa e_82_84 h h0 h1
theorem e_82_86 : g_Pg 82 86 = ga_putR 7 23 89 := (congrFun pg_82 86).trans rfl
theorem q_82_86 {L : List Value} {a v : Nat} {S : List Value} {Z : gZ} {I : gI} {J : gJ} (h : (gKd Z a).1 = 7) : g_at 82 86 L (.ref v :: .ref a :: S) Z I J = g_at 82 89 L S (Z.1, Z.2.1, Z.2.2.1, va_up Z.2.2.2 a (va_up (Z.2.2.2 a) 23 (some v))) I J := gq_putR e_82_86 h
theorem e_82_89 : g_Pg 82 89 = ga_aload 0 90 := (congrFun pg_82 89).trans rfl
theorem q_82_89 {x : Nat} {S : List Value} {Z : gZ} {I : gI} {J : gJ} : g_at 82 89 [.ref x] S Z I J = g_at 82 90 [.ref x] (.ref x :: S) Z I J := gq_aload e_82_89 rfl
theorem e_82_90 : g_Pg 82 90 = ga_push (.int 16) 92 := (congrFun pg_82 90).trans rfl
theorem q_82_90 {L : List Value} {S : List Value} {Z : gZ} {I : gI} {J : gJ} : g_at 82 90 L S Z I J = g_at 82 92 L (.int 16 :: S) Z I J := gq_push e_82_90
theorem e_82_92 : g_Pg 82 92 = ga_newa 8 94 := (congrFun pg_82 92).trans rfl
theorem q_82_92 {L : List Value} {n : Int32} {S : List Value} {Z : gZ} {I : gI} {J : gJ} (h : Z.1 < 1000) (h0 : 0 ≤ n) (h1 : n.toNatClampNeg ≤ 1000) : g_at 82 92 L (.int n :: S) Z I J = g_at 82 94 L (.ref Z.1 :: S) (Z.1 + 1, Z.2.1 + n.toNatClampNeg, va_up Z.2.2.1 Z.1 (8, n.toNatClampNeg), va_up Z.2.2.2 Z.1 (fun _ => none)) (va_up I Z.1 (fun _ => 0)) (va_up J Z.1 (fun _ => 0)) := gq_newa e_82_92 h h0 h1
theorem e_82_94 : g_Pg 82 94 = ga_putR 7 25 97 := (congrFun pg_82 94).trans rfl
theorem q_82_94 {L : List Value} {a v : Nat} {S : List Value} {Z : gZ} {I : gI} {J : gJ} (h : (gKd Z a).1 = 7) : g_at 82 94 L (.ref v :: .ref a :: S) Z I J = g_at 82 97 L S (Z.1, Z.2.1, Z.2.2.1, va_up Z.2.2.2 a (va_up (Z.2.2.2 a) 25 (some v))) I J := gq_putR e_82_94 h
theorem e_82_97 : g_Pg 82 97 = ga_aload 0 98 := (congrFun pg_82 97).trans rfl
theorem q_82_97 {x : Nat} {S : List Value} {Z : gZ} {I : gI} {J : gJ} : g_at 82 97 [.ref x] S Z I J = g_at 82 98 [.ref x] (.ref x :: S) Z I J := gq_aload e_82_97 rfl
theorem e_82_98 : g_Pg 82 98 = ga_push (.int 10) 100 := (congrFun pg_82 98).trans rfl
theorem q_82_98 {L : List Value} {S : List Value} {Z : gZ} {I : gI} {J : gJ} : g_at 82 98 L S Z I J = g_at 82 100 L (.int 10 :: S) Z I J := gq_push e_82_98
theorem e_82_100 : g_Pg 82 100 = ga_newa 8 102 := (congrFun pg_82 100).trans rfl
theorem q_82_100 {L : List Value} {n : Int32} {S : List Value} {Z : gZ} {I : gI} {J : gJ} (h : Z.1 < 1000) (h0 : 0 ≤ n) (h1 : n.toNatClampNeg ≤ 1000) : g_at 82 100 L (.int n :: S) Z I J = g_at 82 102 L (.ref Z.1 :: S) (Z.1 + 1, Z.2.1 + n.toNatClampNeg, va_up Z.2.2.1 Z.1 (8, n.toNatClampNeg), va_up Z.2.2.2 Z.1 (fun _ => none)) (va_up I Z.1 (fun _ => 0)) (va_up J Z.1 (fun _ => 0)) := gq_newa e_82_100 h h0 h1
theorem e_82_102 : g_Pg 82 102 = ga_putR 7 26 105 := (congrFun pg_82 102).trans rfl
theorem q_82_102 {L : List Value} {a v : Nat} {S : List Value} {Z : gZ} {I : gI} {J : gJ} (h : (gKd Z a).1 = 7) : g_at 82 102 L (.ref v :: .ref a :: S) Z I J = g_at 82 105 L S (Z.1, Z.2.1, Z.2.2.1, va_up Z.2.2.2 a (va_up (Z.2.2.2 a) 26 (some v))) I J := gq_putR e_82_102 h
theorem e_82_105 : g_Pg 82 105 = ga_aload 0 106 := (congrFun pg_82 105).trans rfl
theorem q_82_105 {x : Nat} {S : List Value} {Z : gZ} {I : gI} {J : gJ} : g_at 82 105 [.ref x] S Z I J = g_at 82 106 [.ref x] (.ref x :: S) Z I J := gq_aload e_82_105 rfl
theorem e_82_106 : g_Pg 82 106 = ga_push (.int (-1)) 107 := (congrFun pg_82 106).trans rfl
theorem q_82_106 {L : List Value} {S : List Value} {Z : gZ} {I : gI} {J : gJ} : g_at 82 106 L S Z I J = g_at 82 107 L (.int (-1) :: S) Z I J := gq_push e_82_106
theorem e_82_107 : g_Pg 82 107 = ga_putI 7 27 110 := (congrFun pg_82 107).trans rfl
theorem q_82_107 {L : List Value} {a : Nat} {v : Int32} {S : List Value} {Z : gZ} {I : gI} {J : gJ} (h : (gKd Z a).1 = 7) : g_at 82 107 L (.int v :: .ref a :: S) Z I J = g_at 82 110 L S Z (va_up I a (va_up (I a) 27 v)) J := gq_putI e_82_107 h
theorem e_82_110 : g_Pg 82 110 = ga_aload 0 111 := (congrFun pg_82 110).trans rfl
theorem q_82_110 {x : Nat} {S : List Value} {Z : gZ} {I : gI} {J : gJ} : g_at 82 110 [.ref x] S Z I J = g_at 82 111 [.ref x] (.ref x :: S) Z I J := gq_aload e_82_110 rfl
theorem e_82_111 : g_Pg 82 111 = ga_push (.int 10) 113 := (congrFun pg_82 111).trans rfl
theorem q_82_111 {L : List Value} {S : List Value} {Z : gZ} {I : gI} {J : gJ} : g_at 82 111 L S Z I J = g_at 82 113 L (.int 10 :: S) Z I J := gq_push e_82_111
theorem e_82_113 : g_Pg 82 113 = ga_newa 8 115 := (congrFun pg_82 113).trans rfl
theorem q_82_113 {L : List Value} {n : Int32} {S : List Value} {Z : gZ} {I : gI} {J : gJ} (h : Z.1 < 1000) (h0 : 0 ≤ n) (h1 : n.toNatClampNeg ≤ 1000) : g_at 82 113 L (.int n :: S) Z I J = g_at 82 115 L (.ref Z.1 :: S) (Z.1 + 1, Z.2.1 + n.toNatClampNeg, va_up Z.2.2.1 Z.1 (8, n.toNatClampNeg), va_up Z.2.2.2 Z.1 (fun _ => none)) (va_up I Z.1 (fun _ => 0)) (va_up J Z.1 (fun _ => 0)) := gq_newa e_82_113 h h0 h1
theorem e_82_115 : g_Pg 82 115 = ga_putR 7 28 118 := (congrFun pg_82 115).trans rfl
theorem q_82_115 {L : List Value} {a v : Nat} {S : List Value} {Z : gZ} {I : gI} {J : gJ} (h : (gKd Z a).1 = 7) : g_at 82 115 L (.ref v :: .ref a :: S) Z I J = g_at 82 118 L S (Z.1, Z.2.1, Z.2.2.1, va_up Z.2.2.2 a (va_up (Z.2.2.2 a) 28 (some v))) I J := gq_putR e_82_115 h
theorem e_82_118 : g_Pg 82 118 = ga_aload 0 119 := (congrFun pg_82 118).trans rfl
theorem q_82_118 {x : Nat} {S : List Value} {Z : gZ} {I : gI} {J : gJ} : g_at 82 118 [.ref x] S Z I J = g_at 82 119 [.ref x] (.ref x :: S) Z I J := gq_aload e_82_118 rfl
theorem e_82_119 : g_Pg 82 119 = ga_push (.int 100) 121 := (congrFun pg_82 119).trans rfl
theorem q_82_119 {L : List Value} {S : List Value} {Z : gZ} {I : gI} {J : gJ} : g_at 82 119 L S Z I J = g_at 82 121 L (.int 100 :: S) Z I J := gq_push e_82_119
theorem e_82_121 : g_Pg 82 121 = ga_newa 8 123 := (congrFun pg_82 121).trans rfl
theorem q_82_121 {L : List Value} {n : Int32} {S : List Value} {Z : gZ} {I : gI} {J : gJ} (h : Z.1 < 1000) (h0 : 0 ≤ n) (h1 : n.toNatClampNeg ≤ 1000) : g_at 82 121 L (.int n :: S) Z I J = g_at 82 123 L (.ref Z.1 :: S) (Z.1 + 1, Z.2.1 + n.toNatClampNeg, va_up Z.2.2.1 Z.1 (8, n.toNatClampNeg), va_up Z.2.2.2 Z.1 (fun _ => none)) (va_up I Z.1 (fun _ => 0)) (va_up J Z.1 (fun _ => 0)) := gq_newa e_82_121 h h0 h1
theorem e_82_123 : g_Pg 82 123 = ga_putR 7 29 126 := (congrFun pg_82 123).trans rfl
theorem q_82_123 {L : List Value} {a v : Nat} {S : List Value} {Z : gZ} {I : gI} {J : gJ} (h : (gKd Z a).1 = 7) : g_at 82 123 L (.ref v :: .ref a :: S) Z I J = g_at 82 126 L S (Z.1, Z.2.1, Z.2.2.1, va_up Z.2.2.2 a (va_up (Z.2.2.2 a) 29 (some v))) I J := gq_putR e_82_123 h
theorem e_82_126 : g_Pg 82 126 = ga_aload 0 127 := (congrFun pg_82 126).trans rfl
theorem q_82_126 {x : Nat} {S : List Value} {Z : gZ} {I : gI} {J : gJ} : g_at 82 126 [.ref x] S Z I J = g_at 82 127 [.ref x] (.ref x :: S) Z I J := gq_aload e_82_126 rfl
theorem e_82_127 : g_Pg 82 127 = ga_push (.int 4) 128 := (congrFun pg_82 127).trans rfl
theorem q_82_127 {L : List Value} {S : List Value} {Z : gZ} {I : gI} {J : gJ} : g_at 82 127 L S Z I J = g_at 82 128 L (.int 4 :: S) Z I J := gq_push e_82_127
theorem e_82_128 : g_Pg 82 128 = ga_callV 7 86 1 131 := (congrFun pg_82 128).trans rfl
theorem q_82_128 {L : List Value} {a0 : Int32} {a1 : Nat} {Z : gZ} {I : gI} {J : gJ} (h : (gKd Z a1).1 = 7) : g_at 82 128 L [.int a0, .ref a1] Z I J = (g_at 86 0 [.ref a1, .int a0, .null] [] Z I J).bind (fun r => g_at 82 131 L (r.1.toList ++ []) r.2.1 r.2.2.1 r.2.2.2) := gq_callV e_82_128 rfl rfl h rfl rfl rfl rfl rfl
theorem e_82_131 : g_Pg 82 131 = ga_vret := (congrFun pg_82 131).trans rfl
theorem q_82_131 {L : List Value} {Z : gZ} {I : gI} {J : gJ} : g_at 82 131 L [] Z I J = some (none, Z, I, J) := gq_vret e_82_131
theorem e_83_0 : g_Pg 83 0 = ga_iload 0 1 := (congrFun pg_83 0).trans rfl
theorem q_83_0 {l1 l2 : Value} {x : Int32} {S : List Value} {Z : gZ} {I : gI} {J : gJ} : g_at 83 0 [.int x, l1, l2] S Z I J = g_at 83 1 [.int x, l1, l2] (.int x :: S) Z I J := gq_iload e_83_0 rfl
theorem e_83_1 : g_Pg 83 1 = ga_iload 1 2 := (congrFun pg_83 1).trans rfl
theorem q_83_1 {l0 l2 : Value} {x : Int32} {S : List Value} {Z : gZ} {I : gI} {J : gJ} : g_at 83 1 [l0, .int x, l2] S Z I J = g_at 83 2 [l0, .int x, l2] (.int x :: S) Z I J := gq_iload e_83_1 rfl
theorem e_83_2 : g_Pg 83 2 = ga_cmp (fun x y => decide (x < y)) 14 5 := (congrFun pg_83 2).trans rfl
theorem q_83_2 {L : List Value} {x y : Int32} {S : List Value} {Z : gZ} {I : gI} {J : gJ} : g_at 83 2 L (.int y :: .int x :: S) Z I J = if x < y then g_at 83 14 L S Z I J else g_at 83 5 L S Z I J := gq_cmp e_83_2 rfl
theorem e_83_5 : g_Pg 83 5 = ga_iload 0 6 := (congrFun pg_83 5).trans rfl
theorem q_83_5 {l1 l2 : Value} {x : Int32} {S : List Value} {Z : gZ} {I : gI} {J : gJ} : g_at 83 5 [.int x, l1, l2] S Z I J = g_at 83 6 [.int x, l1, l2] (.int x :: S) Z I J := gq_iload e_83_5 rfl
theorem e_83_6 : g_Pg 83 6 = ga_iload 2 7 := (congrFun pg_83 6).trans rfl
theorem q_83_6 {l0 l1 : Value} {x : Int32} {S : List Value} {Z : gZ} {I : gI} {J : gJ} : g_at 83 6 [l0, l1, .int x] S Z I J = g_at 83 7 [l0, l1, .int x] (.int x :: S) Z I J := gq_iload e_83_6 rfl
theorem e_83_7 : g_Pg 83 7 = ga_cmp (fun x y => decide (y < x)) 14 10 := (congrFun pg_83 7).trans rfl
theorem q_83_7 {L : List Value} {x y : Int32} {S : List Value} {Z : gZ} {I : gI} {J : gJ} : g_at 83 7 L (.int y :: .int x :: S) Z I J = if y < x then g_at 83 14 L S Z I J else g_at 83 10 L S Z I J := gq_cmp e_83_7 rfl
theorem e_83_10 : g_Pg 83 10 = ga_push (.int 1) 11 := (congrFun pg_83 10).trans rfl
theorem q_83_10 {L : List Value} {S : List Value} {Z : gZ} {I : gI} {J : gJ} : g_at 83 10 L S Z I J = g_at 83 11 L (.int 1 :: S) Z I J := gq_push e_83_10
theorem e_83_11 : g_Pg 83 11 = ga_goto 15 := (congrFun pg_83 11).trans rfl
theorem q_83_11 {L : List Value} {S : List Value} {Z : gZ} {I : gI} {J : gJ} : g_at 83 11 L S Z I J = g_at 83 15 L S Z I J := gq_goto e_83_11
theorem e_83_14 : g_Pg 83 14 = ga_push (.int 0) 15 := (congrFun pg_83 14).trans rfl
theorem q_83_14 {L : List Value} {S : List Value} {Z : gZ} {I : gI} {J : gJ} : g_at 83 14 L S Z I J = g_at 83 15 L (.int 0 :: S) Z I J := gq_push e_83_14
theorem e_83_15 : g_Pg 83 15 = ga_zret := (congrFun pg_83 15).trans rfl
theorem q_83_15 {L : List Value} {x : Int32} {Z : gZ} {I : gI} {J : gJ} (h : gB01 x = true) : g_at 83 15 L [.int x] Z I J = some (some (.int x), Z, I, J) := gq_zret e_83_15 h
theorem e_84_0 : g_Pg 84 0 = ga_iload 0 1 := (congrFun pg_84 0).trans rfl
theorem q_84_0 {l1 : Value} {x : Int32} {S : List Value} {Z : gZ} {I : gI} {J : gJ} : g_at 84 0 [.int x, l1] S Z I J = g_at 84 1 [.int x, l1] (.int x :: S) Z I J := gq_iload e_84_0 rfl
theorem e_84_1 : g_Pg 84 1 = ga_iload 1 2 := (congrFun pg_84 1).trans rfl
theorem q_84_1 {l0 : Value} {x : Int32} {S : List Value} {Z : gZ} {I : gI} {J : gJ} : g_at 84 1 [l0, .int x] S Z I J = g_at 84 2 [l0, .int x] (.int x :: S) Z I J := gq_iload e_84_1 rfl
theorem e_84_2 : g_Pg 84 2 = ga_bin (fun x y => x >>> (y &&& 31)) 3 := (congrFun pg_84 2).trans rfl
theorem q_84_2 {L : List Value} {x y : Int32} {S : List Value} {Z : gZ} {I : gI} {J : gJ} : g_at 84 2 L (.int y :: .int x :: S) Z I J = g_at 84 3 L (.int (x >>> (y &&& 31)) :: S) Z I J := gq_bin e_84_2
theorem e_84_3 : g_Pg 84 3 = ga_push (.int 1) 4 := (congrFun pg_84 3).trans rfl
theorem q_84_3 {L : List Value} {S : List Value} {Z : gZ} {I : gI} {J : gJ} : g_at 84 3 L S Z I J = g_at 84 4 L (.int 1 :: S) Z I J := gq_push e_84_3
theorem e_84_4 : g_Pg 84 4 = ga_bin (fun x y => x &&& y) 5 := (congrFun pg_84 4).trans rfl
theorem q_84_4 {L : List Value} {x y : Int32} {S : List Value} {Z : gZ} {I : gI} {J : gJ} : g_at 84 4 L (.int y :: .int x :: S) Z I J = g_at 84 5 L (.int (x &&& y) :: S) Z I J := gq_bin e_84_4
theorem e_84_5 : g_Pg 84 5 = ga_push (.int 1) 6 := (congrFun pg_84 5).trans rfl
theorem q_84_5 {L : List Value} {S : List Value} {Z : gZ} {I : gI} {J : gJ} : g_at 84 5 L S Z I J = g_at 84 6 L (.int 1 :: S) Z I J := gq_push e_84_5
theorem e_84_6 : g_Pg 84 6 = ga_cmp (fun x y => decide (¬ x = y)) 13 9 := (congrFun pg_84 6).trans rfl
theorem q_84_6 {L : List Value} {x y : Int32} {S : List Value} {Z : gZ} {I : gI} {J : gJ} : g_at 84 6 L (.int y :: .int x :: S) Z I J = if ¬ x = y then g_at 84 13 L S Z I J else g_at 84 9 L S Z I J := gq_cmp e_84_6 rfl
theorem e_84_9 : g_Pg 84 9 = ga_push (.int 1) 10 := (congrFun pg_84 9).trans rfl
theorem q_84_9 {L : List Value} {S : List Value} {Z : gZ} {I : gI} {J : gJ} : g_at 84 9 L S Z I J = g_at 84 10 L (.int 1 :: S) Z I J := gq_push e_84_9
theorem e_84_10 : g_Pg 84 10 = ga_goto 14 := (congrFun pg_84 10).trans rfl
theorem q_84_10 {L : List Value} {S : List Value} {Z : gZ} {I : gI} {J : gJ} : g_at 84 10 L S Z I J = g_at 84 14 L S Z I J := gq_goto e_84_10
theorem e_84_13 : g_Pg 84 13 = ga_push (.int 0) 14 := (congrFun pg_84 13).trans rfl
theorem q_84_13 {L : List Value} {S : List Value} {Z : gZ} {I : gI} {J : gJ} : g_at 84 13 L S Z I J = g_at 84 14 L (.int 0 :: S) Z I J := gq_push e_84_13
theorem e_84_14 : g_Pg 84 14 = ga_zret := (congrFun pg_84 14).trans rfl
theorem q_84_14 {L : List Value} {x : Int32} {Z : gZ} {I : gI} {J : gJ} (h : gB01 x = true) : g_at 84 14 L [.int x] Z I J = some (some (.int x), Z, I, J) := gq_zret e_84_14 h
theorem e_85_0 : g_Pg 85 0 = ga_iload 1 1 := (congrFun pg_85 0).trans rfl
theorem q_85_0 {l0 : Value} {x : Int32} {S : List Value} {Z : gZ} {I : gI} {J : gJ} : g_at 85 0 [l0, .int x] S Z I J = g_at 85 1 [l0, .int x] (.int x :: S) Z I J := gq_iload e_85_0 rfl
theorem e_85_1 : g_Pg 85 1 = ga_push (.int 0) 2 := (congrFun pg_85 1).trans rfl
theorem q_85_1 {L : List Value} {S : List Value} {Z : gZ} {I : gI} {J : gJ} : g_at 85 1 L S Z I J = g_at 85 2 L (.int 0 :: S) Z I J := gq_push e_85_1
theorem e_85_2 : g_Pg 85 2 = ga_aload 0 3 := (congrFun pg_85 2).trans rfl
theorem q_85_2 {l1 : Value} {x : Nat} {S : List Value} {Z : gZ} {I : gI} {J : gJ} : g_at 85 2 [.ref x, l1] S Z I J = g_at 85 3 [.ref x, l1] (.ref x :: S) Z I J := gq_aload e_85_2 rfl
theorem e_85_3 : g_Pg 85 3 = ga_getI 7 0 6 := (congrFun pg_85 3).trans rfl
theorem q_85_3 {L : List Value} {a : Nat} {S : List Value} {Z : gZ} {I : gI} {J : gJ} (h : (gKd Z a).1 = 7) : g_at 85 3 L (.ref a :: S) Z I J = g_at 85 6 L (.int (I a 0) :: S) Z I J := gq_getI e_85_3 h
theorem e_85_6 : g_Pg 85 6 = ga_push (.int 1) 7 := (congrFun pg_85 6).trans rfl
theorem q_85_6 {L : List Value} {S : List Value} {Z : gZ} {I : gI} {J : gJ} : g_at 85 6 L S Z I J = g_at 85 7 L (.int 1 :: S) Z I J := gq_push e_85_6
theorem e_85_7 : g_Pg 85 7 = ga_bin (fun x y => x - y) 8 := (congrFun pg_85 7).trans rfl
theorem q_85_7 {L : List Value} {x y : Int32} {S : List Value} {Z : gZ} {I : gI} {J : gJ} : g_at 85 7 L (.int y :: .int x :: S) Z I J = g_at 85 8 L (.int (x - y) :: S) Z I J := gq_bin e_85_7
theorem e_85_8 : g_Pg 85 8 = ga_call 83 3 11 := (congrFun pg_85 8).trans rfl
theorem q_85_8 {L : List Value} {a0 : Int32} {a1 : Int32} {a2 : Int32} {Z : gZ} {I : gI} {J : gJ} : g_at 85 8 L [.int a0, .int a1, .int a2] Z I J = (g_at 83 0 [.int a2, .int a1, .int a0] [] Z I J).bind (fun r => g_at 85 11 L (r.1.toList ++ []) r.2.1 r.2.2.1 r.2.2.2) := gq_call e_85_8 rfl rfl rfl rfl rfl
theorem e_85_11 : g_Pg 85 11 = ga_zret := (congrFun pg_85 11).trans rfl
theorem q_85_11 {L : List Value} {x : Int32} {Z : gZ} {I : gI} {J : gJ} (h : gB01 x = true) : g_at 85 11 L [.int x] Z I J = some (some (.int x), Z, I, J) := gq_zret e_85_11 h
theorem e_86_0 : g_Pg 86 0 = ga_aload 0 1 := (congrFun pg_86 0).trans rfl
theorem q_86_0 {l1 l2 : Value} {x : Nat} {S : List Value} {Z : gZ} {I : gI} {J : gJ} : g_at 86 0 [.ref x, l1, l2] S Z I J = g_at 86 1 [.ref x, l1, l2] (.ref x :: S) Z I J := gq_aload e_86_0 rfl
theorem e_86_1 : g_Pg 86 1 = ga_iload 1 2 := (congrFun pg_86 1).trans rfl
theorem q_86_1 {l0 l2 : Value} {x : Int32} {S : List Value} {Z : gZ} {I : gI} {J : gJ} : g_at 86 1 [l0, .int x, l2] S Z I J = g_at 86 2 [l0, .int x, l2] (.int x :: S) Z I J := gq_iload e_86_1 rfl
theorem e_86_2 : g_Pg 86 2 = ga_putI 7 0 5 := (congrFun pg_86 2).trans rfl
theorem q_86_2 {L : List Value} {a : Nat} {v : Int32} {S : List Value} {Z : gZ} {I : gI} {J : gJ} (h : (gKd Z a).1 = 7) : g_at 86 2 L (.int v :: .ref a :: S) Z I J = g_at 86 5 L S Z (va_up I a (va_up (I a) 0 v)) J := gq_putI e_86_2 h
theorem e_86_5 : g_Pg 86 5 = ga_aload 0 6 := (congrFun pg_86 5).trans rfl
theorem q_86_5 {l1 l2 : Value} {x : Nat} {S : List Value} {Z : gZ} {I : gI} {J : gJ} : g_at 86 5 [.ref x, l1, l2] S Z I J = g_at 86 6 [.ref x, l1, l2] (.ref x :: S) Z I J := gq_aload e_86_5 rfl
theorem e_86_6 : g_Pg 86 6 = ga_push (.int 0) 7 := (congrFun pg_86 6).trans rfl
theorem q_86_6 {L : List Value} {S : List Value} {Z : gZ} {I : gI} {J : gJ} : g_at 86 6 L S Z I J = g_at 86 7 L (.int 0 :: S) Z I J := gq_push e_86_6
theorem e_86_7 : g_Pg 86 7 = ga_putI 7 6 10 := (congrFun pg_86 7).trans rfl
theorem q_86_7 {L : List Value} {a : Nat} {v : Int32} {S : List Value} {Z : gZ} {I : gI} {J : gJ} (h : (gKd Z a).1 = 7) : g_at 86 7 L (.int v :: .ref a :: S) Z I J = g_at 86 10 L S Z (va_up I a (va_up (I a) 6 v)) J := gq_putI e_86_7 h
theorem e_86_10 : g_Pg 86 10 = ga_push (.int 0) 11 := (congrFun pg_86 10).trans rfl
theorem q_86_10 {L : List Value} {S : List Value} {Z : gZ} {I : gI} {J : gJ} : g_at 86 10 L S Z I J = g_at 86 11 L (.int 0 :: S) Z I J := gq_push e_86_10
theorem e_86_11 : g_Pg 86 11 = ga_istore 2 12 := (congrFun pg_86 11).trans rfl
theorem q_86_11 {l0 l1 l2 : Value} {x : Int32} {S : List Value} {Z : gZ} {I : gI} {J : gJ} (h : gN1 l1 = true) : g_at 86 11 [l0, l1, l2] (.int x :: S) Z I J = g_at 86 12 [l0, l1, .int x] S Z I J := gq_istore e_86_11 h rfl rfl
theorem e_86_12 : g_Pg 86 12 = ga_iload 2 13 := (congrFun pg_86 12).trans rfl
theorem q_86_12 {l0 l1 : Value} {x : Int32} {S : List Value} {Z : gZ} {I : gI} {J : gJ} : g_at 86 12 [l0, l1, .int x] S Z I J = g_at 86 13 [l0, l1, .int x] (.int x :: S) Z I J := gq_iload e_86_12 rfl
theorem e_86_13 : g_Pg 86 13 = ga_push (.int 10) 15 := (congrFun pg_86 13).trans rfl
theorem q_86_13 {L : List Value} {S : List Value} {Z : gZ} {I : gI} {J : gJ} : g_at 86 13 L S Z I J = g_at 86 15 L (.int 10 :: S) Z I J := gq_push e_86_13
theorem e_86_15 : g_Pg 86 15 = ga_cmp (fun x y => decide (y ≤ x)) 52 18 := (congrFun pg_86 15).trans rfl
theorem q_86_15 {L : List Value} {x y : Int32} {S : List Value} {Z : gZ} {I : gI} {J : gJ} : g_at 86 15 L (.int y :: .int x :: S) Z I J = if y ≤ x then g_at 86 52 L S Z I J else g_at 86 18 L S Z I J := gq_cmp e_86_15 rfl
theorem e_86_18 : g_Pg 86 18 = ga_aload 0 19 := (congrFun pg_86 18).trans rfl
theorem q_86_18 {l1 l2 : Value} {x : Nat} {S : List Value} {Z : gZ} {I : gI} {J : gJ} : g_at 86 18 [.ref x, l1, l2] S Z I J = g_at 86 19 [.ref x, l1, l2] (.ref x :: S) Z I J := gq_aload e_86_18 rfl
theorem e_86_19 : g_Pg 86 19 = ga_getR 7 1 22 := (congrFun pg_86 19).trans rfl
theorem q_86_19 {L : List Value} {a : Nat} {S : List Value} {Z : gZ} {I : gI} {J : gJ} (h : (gKd Z a).1 = 7) (h1 : gRs Z a 1 = true) : g_at 86 19 L (.ref a :: S) Z I J = g_at 86 22 L (.ref (gRq Z a 1) :: S) Z I J := gq_getR e_86_19 h h1
theorem e_86_22 : g_Pg 86 22 = ga_iload 2 23 := (congrFun pg_86 22).trans rfl
theorem q_86_22 {l0 l1 : Value} {x : Int32} {S : List Value} {Z : gZ} {I : gI} {J : gJ} : g_at 86 22 [l0, l1, .int x] S Z I J = g_at 86 23 [l0, l1, .int x] (.int x :: S) Z I J := gq_iload e_86_22 rfl
theorem e_86_23 : g_Pg 86 23 = ga_push (.int (-1)) 24 := (congrFun pg_86 23).trans rfl
theorem q_86_23 {L : List Value} {S : List Value} {Z : gZ} {I : gI} {J : gJ} : g_at 86 23 L S Z I J = g_at 86 24 L (.int (-1) :: S) Z I J := gq_push e_86_23
theorem e_86_24 : g_Pg 86 24 = ga_iast 25 := (congrFun pg_86 24).trans rfl
theorem q_86_24 {L : List Value} {a : Nat} {i : Int32} {v : Int32} {S : List Value} {Z : gZ} {I : gI} {J : gJ} (h : (gKd Z a).1 = 8) (h0 : 0 ≤ i) (h1 : i.toNatClampNeg < (gKd Z a).2) : g_at 86 24 L (.int v :: .int i :: .ref a :: S) Z I J = g_at 86 25 L S Z (va_up I a (va_up (I a) i.toNatClampNeg v)) J := gq_iast e_86_24 h h0 h1
theorem e_86_25 : g_Pg 86 25 = ga_aload 0 26 := (congrFun pg_86 25).trans rfl
theorem q_86_25 {l1 l2 : Value} {x : Nat} {S : List Value} {Z : gZ} {I : gI} {J : gJ} : g_at 86 25 [.ref x, l1, l2] S Z I J = g_at 86 26 [.ref x, l1, l2] (.ref x :: S) Z I J := gq_aload e_86_25 rfl
theorem e_86_26 : g_Pg 86 26 = ga_getR 7 2 29 := (congrFun pg_86 26).trans rfl
theorem q_86_26 {L : List Value} {a : Nat} {S : List Value} {Z : gZ} {I : gI} {J : gJ} (h : (gKd Z a).1 = 7) (h1 : gRs Z a 2 = true) : g_at 86 26 L (.ref a :: S) Z I J = g_at 86 29 L (.ref (gRq Z a 2) :: S) Z I J := gq_getR e_86_26 h h1
theorem e_86_29 : g_Pg 86 29 = ga_iload 2 30 := (congrFun pg_86 29).trans rfl
theorem q_86_29 {l0 l1 : Value} {x : Int32} {S : List Value} {Z : gZ} {I : gI} {J : gJ} : g_at 86 29 [l0, l1, .int x] S Z I J = g_at 86 30 [l0, l1, .int x] (.int x :: S) Z I J := gq_iload e_86_29 rfl
theorem e_86_30 : g_Pg 86 30 = ga_push (.int 0) 31 := (congrFun pg_86 30).trans rfl
theorem q_86_30 {L : List Value} {S : List Value} {Z : gZ} {I : gI} {J : gJ} : g_at 86 30 L S Z I J = g_at 86 31 L (.int 0 :: S) Z I J := gq_push e_86_30
theorem e_86_31 : g_Pg 86 31 = ga_iast 32 := (congrFun pg_86 31).trans rfl
theorem q_86_31 {L : List Value} {a : Nat} {i : Int32} {v : Int32} {S : List Value} {Z : gZ} {I : gI} {J : gJ} (h : (gKd Z a).1 = 8) (h0 : 0 ≤ i) (h1 : i.toNatClampNeg < (gKd Z a).2) : g_at 86 31 L (.int v :: .int i :: .ref a :: S) Z I J = g_at 86 32 L S Z (va_up I a (va_up (I a) i.toNatClampNeg v)) J := gq_iast e_86_31 h h0 h1
theorem e_86_32 : g_Pg 86 32 = ga_aload 0 33 := (congrFun pg_86 32).trans rfl
theorem q_86_32 {l1 l2 : Value} {x : Nat} {S : List Value} {Z : gZ} {I : gI} {J : gJ} : g_at 86 32 [.ref x, l1, l2] S Z I J = g_at 86 33 [.ref x, l1, l2] (.ref x :: S) Z I J := gq_aload e_86_32 rfl
theorem e_86_33 : g_Pg 86 33 = ga_getR 7 3 36 := (congrFun pg_86 33).trans rfl
theorem q_86_33 {L : List Value} {a : Nat} {S : List Value} {Z : gZ} {I : gI} {J : gJ} (h : (gKd Z a).1 = 7) (h1 : gRs Z a 3 = true) : g_at 86 33 L (.ref a :: S) Z I J = g_at 86 36 L (.ref (gRq Z a 3) :: S) Z I J := gq_getR e_86_33 h h1
theorem e_86_36 : g_Pg 86 36 = ga_iload 2 37 := (congrFun pg_86 36).trans rfl
theorem q_86_36 {l0 l1 : Value} {x : Int32} {S : List Value} {Z : gZ} {I : gI} {J : gJ} : g_at 86 36 [l0, l1, .int x] S Z I J = g_at 86 37 [l0, l1, .int x] (.int x :: S) Z I J := gq_iload e_86_36 rfl
theorem e_86_37 : g_Pg 86 37 = ga_push (.int 0) 38 := (congrFun pg_86 37).trans rfl
theorem q_86_37 {L : List Value} {S : List Value} {Z : gZ} {I : gI} {J : gJ} : g_at 86 37 L S Z I J = g_at 86 38 L (.int 0 :: S) Z I J := gq_push e_86_37
theorem e_86_38 : g_Pg 86 38 = ga_iast 39 := (congrFun pg_86 38).trans rfl
theorem q_86_38 {L : List Value} {a : Nat} {i : Int32} {v : Int32} {S : List Value} {Z : gZ} {I : gI} {J : gJ} (h : (gKd Z a).1 = 8) (h0 : 0 ≤ i) (h1 : i.toNatClampNeg < (gKd Z a).2) : g_at 86 38 L (.int v :: .int i :: .ref a :: S) Z I J = g_at 86 39 L S Z (va_up I a (va_up (I a) i.toNatClampNeg v)) J := gq_iast e_86_38 h h0 h1
theorem e_86_39 : g_Pg 86 39 = ga_aload 0 40 := (congrFun pg_86 39).trans rfl
theorem q_86_39 {l1 l2 : Value} {x : Nat} {S : List Value} {Z : gZ} {I : gI} {J : gJ} : g_at 86 39 [.ref x, l1, l2] S Z I J = g_at 86 40 [.ref x, l1, l2] (.ref x :: S) Z I J := gq_aload e_86_39 rfl
theorem e_86_40 : g_Pg 86 40 = ga_getR 7 4 43 := (congrFun pg_86 40).trans rfl
theorem q_86_40 {L : List Value} {a : Nat} {S : List Value} {Z : gZ} {I : gI} {J : gJ} (h : (gKd Z a).1 = 7) (h1 : gRs Z a 4 = true) : g_at 86 40 L (.ref a :: S) Z I J = g_at 86 43 L (.ref (gRq Z a 4) :: S) Z I J := gq_getR e_86_40 h h1
theorem e_86_43 : g_Pg 86 43 = ga_iload 2 44 := (congrFun pg_86 43).trans rfl
theorem q_86_43 {l0 l1 : Value} {x : Int32} {S : List Value} {Z : gZ} {I : gI} {J : gJ} : g_at 86 43 [l0, l1, .int x] S Z I J = g_at 86 44 [l0, l1, .int x] (.int x :: S) Z I J := gq_iload e_86_43 rfl
theorem e_86_44 : g_Pg 86 44 = ga_push (.int 1) 45 := (congrFun pg_86 44).trans rfl
theorem q_86_44 {L : List Value} {S : List Value} {Z : gZ} {I : gI} {J : gJ} : g_at 86 44 L S Z I J = g_at 86 45 L (.int 1 :: S) Z I J := gq_push e_86_44
theorem e_86_45 : g_Pg 86 45 = ga_iast 46 := (congrFun pg_86 45).trans rfl
theorem q_86_45 {L : List Value} {a : Nat} {i : Int32} {v : Int32} {S : List Value} {Z : gZ} {I : gI} {J : gJ} (h : (gKd Z a).1 = 8) (h0 : 0 ≤ i) (h1 : i.toNatClampNeg < (gKd Z a).2) : g_at 86 45 L (.int v :: .int i :: .ref a :: S) Z I J = g_at 86 46 L S Z (va_up I a (va_up (I a) i.toNatClampNeg v)) J := gq_iast e_86_45 h h0 h1
theorem e_86_46 : g_Pg 86 46 = ga_iinc 2 1 49 := (congrFun pg_86 46).trans rfl
theorem q_86_46 {l0 l1 : Value} {x : Int32} {S : List Value} {Z : gZ} {I : gI} {J : gJ} (h : gN1 l1 = true) : g_at 86 46 [l0, l1, .int x] S Z I J = g_at 86 49 [l0, l1, .int (x + 1)] S Z I J := gq_iinc e_86_46 rfl h rfl
theorem e_86_49 : g_Pg 86 49 = ga_goto 12 := (congrFun pg_86 49).trans rfl
theorem q_86_49 {L : List Value} {S : List Value} {Z : gZ} {I : gI} {J : gJ} : g_at 86 49 L S Z I J = g_at 86 12 L S Z I J := gq_goto e_86_49
theorem e_86_52 : g_Pg 86 52 = ga_vret := (congrFun pg_86 52).trans rfl
theorem q_86_52 {L : List Value} {Z : gZ} {I : gI} {J : gJ} : g_at 86 52 L [] Z I J = some (none, Z, I, J) := gq_vret e_86_52
theorem e_87_0 : g_Pg 87 0 = ga_iload 3 1 := (congrFun pg_87 0).trans rfl
theorem q_87_0 {l0 l1 l2 l4 : Value} {x : Int32} {S : List Value} {Z : gZ} {I : gI} {J : gJ} : g_at 87 0 [l0, l1, l2, .int x, l4] S Z I J = g_at 87 1 [l0, l1, l2, .int x, l4] (.int x :: S) Z I J := gq_iload e_87_0 rfl
theorem e_87_1 : g_Pg 87 1 = ga_push (.int 1) 2 := (congrFun pg_87 1).trans rfl
theorem q_87_1 {L : List Value} {S : List Value} {Z : gZ} {I : gI} {J : gJ} : g_at 87 1 L S Z I J = g_at 87 2 L (.int 1 :: S) Z I J := gq_push e_87_1
theorem e_87_2 : g_Pg 87 2 = ga_push (.int 8) 4 := (congrFun pg_87 2).trans rfl
theorem q_87_2 {L : List Value} {S : List Value} {Z : gZ} {I : gI} {J : gJ} : g_at 87 2 L S Z I J = g_at 87 4 L (.int 8 :: S) Z I J := gq_push e_87_2
theorem e_87_4 : g_Pg 87 4 = ga_call 83 3 7 := (congrFun pg_87 4).trans rfl
theorem q_87_4 {L : List Value} {a0 : Int32} {a1 : Int32} {a2 : Int32} {Z : gZ} {I : gI} {J : gJ} : g_at 87 4 L [.int a0, .int a1, .int a2] Z I J = (g_at 83 0 [.int a2, .int a1, .int a0] [] Z I J).bind (fun r => g_at 87 7 L (r.1.toList ++ []) r.2.1 r.2.2.1 r.2.2.2) := gq_call e_87_4 rfl rfl rfl rfl rfl
theorem e_87_7 : g_Pg 87 7 = ga_if (fun x => decide (¬ x = 0)) 13 10 := (congrFun pg_87 7).trans rfl
theorem q_87_7 {L : List Value} {x : Int32} {S : List Value} {Z : gZ} {I : gI} {J : gJ} : g_at 87 7 L (.int x :: S) Z I J = if ¬ x = 0 then g_at 87 13 L S Z I J else g_at 87 10 L S Z I J := gq_if e_87_7 rfl
theorem e_87_10 : g_Pg 87 10 = ga_push (.int (-3)) 12 := (congrFun pg_87 10).trans rfl
theorem q_87_10 {L : List Value} {S : List Value} {Z : gZ} {I : gI} {J : gJ} : g_at 87 10 L S Z I J = g_at 87 12 L (.int (-3) :: S) Z I J := gq_push e_87_10
theorem e_87_12 : g_Pg 87 12 = ga_iret := (congrFun pg_87 12).trans rfl
theorem q_87_12 {L : List Value} {x : Int32} {Z : gZ} {I : gI} {J : gJ} : g_at 87 12 L [.int x] Z I J = some (some (.int x), Z, I, J) := gq_iret e_87_12
theorem e_87_13 : g_Pg 87 13 = ga_aload 0 14 := (congrFun pg_87 13).trans rfl
theorem q_87_13 {l1 l2 l3 l4 : Value} {x : Nat} {S : List Value} {Z : gZ} {I : gI} {J : gJ} : g_at 87 13 [.ref x, l1, l2, l3, l4] S Z I J = g_at 87 14 [.ref x, l1, l2, l3, l4] (.ref x :: S) Z I J := gq_aload e_87_13 rfl
theorem e_87_14 : g_Pg 87 14 = ga_getI 7 7 17 := (congrFun pg_87 14).trans rfl
theorem q_87_14 {L : List Value} {a : Nat} {S : List Value} {Z : gZ} {I : gI} {J : gJ} (h : (gKd Z a).1 = 7) : g_at 87 14 L (.ref a :: S) Z I J = g_at 87 17 L (.int (I a 7) :: S) Z I J := gq_getI e_87_14 h
theorem e_87_17 : g_Pg 87 17 = ga_iload 3 18 := (congrFun pg_87 17).trans rfl
theorem q_87_17 {l0 l1 l2 l4 : Value} {x : Int32} {S : List Value} {Z : gZ} {I : gI} {J : gJ} : g_at 87 17 [l0, l1, l2, .int x, l4] S Z I J = g_at 87 18 [l0, l1, l2, .int x, l4] (.int x :: S) Z I J := gq_iload e_87_17 rfl
theorem e_87_18 : g_Pg 87 18 = ga_bin (fun x y => x + y) 19 := (congrFun pg_87 18).trans rfl
theorem q_87_18 {L : List Value} {x y : Int32} {S : List Value} {Z : gZ} {I : gI} {J : gJ} : g_at 87 18 L (.int y :: .int x :: S) Z I J = g_at 87 19 L (.int (x + y) :: S) Z I J := gq_bin e_87_18
theorem e_87_19 : g_Pg 87 19 = ga_push (.int 200) 22 := (congrFun pg_87 19).trans rfl
theorem q_87_19 {L : List Value} {S : List Value} {Z : gZ} {I : gI} {J : gJ} : g_at 87 19 L S Z I J = g_at 87 22 L (.int 200 :: S) Z I J := gq_push e_87_19
theorem e_87_22 : g_Pg 87 22 = ga_cmp (fun x y => decide (x ≤ y)) 28 25 := (congrFun pg_87 22).trans rfl
theorem q_87_22 {L : List Value} {x y : Int32} {S : List Value} {Z : gZ} {I : gI} {J : gJ} : g_at 87 22 L (.int y :: .int x :: S) Z I J = if x ≤ y then g_at 87 28 L S Z I J else g_at 87 25 L S Z I J := gq_cmp e_87_22 rfl
theorem e_87_25 : g_Pg 87 25 = ga_push (.int (-5)) 27 := (congrFun pg_87 25).trans rfl
theorem q_87_25 {L : List Value} {S : List Value} {Z : gZ} {I : gI} {J : gJ} : g_at 87 25 L S Z I J = g_at 87 27 L (.int (-5) :: S) Z I J := gq_push e_87_25
theorem e_87_27 : g_Pg 87 27 = ga_iret := (congrFun pg_87 27).trans rfl
theorem q_87_27 {L : List Value} {x : Int32} {Z : gZ} {I : gI} {J : gJ} : g_at 87 27 L [.int x] Z I J = some (some (.int x), Z, I, J) := gq_iret e_87_27
theorem e_87_28 : g_Pg 87 28 = ga_push (.int 0) 29 := (congrFun pg_87 28).trans rfl
theorem q_87_28 {L : List Value} {S : List Value} {Z : gZ} {I : gI} {J : gJ} : g_at 87 28 L S Z I J = g_at 87 29 L (.int 0 :: S) Z I J := gq_push e_87_28
theorem e_87_29 : g_Pg 87 29 = ga_istore 4 31 := (congrFun pg_87 29).trans rfl
theorem q_87_29 {l0 l1 l2 l3 l4 : Value} {x : Int32} {S : List Value} {Z : gZ} {I : gI} {J : gJ} (h : gN1 l3 = true) : g_at 87 29 [l0, l1, l2, l3, l4] (.int x :: S) Z I J = g_at 87 31 [l0, l1, l2, l3, .int x] S Z I J := gq_istore e_87_29 h rfl rfl
theorem e_87_31 : g_Pg 87 31 = ga_iload 4 33 := (congrFun pg_87 31).trans rfl
theorem q_87_31 {l0 l1 l2 l3 : Value} {x : Int32} {S : List Value} {Z : gZ} {I : gI} {J : gJ} : g_at 87 31 [l0, l1, l2, l3, .int x] S Z I J = g_at 87 33 [l0, l1, l2, l3, .int x] (.int x :: S) Z I J := gq_iload e_87_31 rfl
theorem e_87_33 : g_Pg 87 33 = ga_iload 3 34 := (congrFun pg_87 33).trans rfl
theorem q_87_33 {l0 l1 l2 l4 : Value} {x : Int32} {S : List Value} {Z : gZ} {I : gI} {J : gJ} : g_at 87 33 [l0, l1, l2, .int x, l4] S Z I J = g_at 87 34 [l0, l1, l2, .int x, l4] (.int x :: S) Z I J := gq_iload e_87_33 rfl
theorem e_87_34 : g_Pg 87 34 = ga_cmp (fun x y => decide (y ≤ x)) 67 37 := (congrFun pg_87 34).trans rfl
theorem q_87_34 {L : List Value} {x y : Int32} {S : List Value} {Z : gZ} {I : gI} {J : gJ} : g_at 87 34 L (.int y :: .int x :: S) Z I J = if y ≤ x then g_at 87 67 L S Z I J else g_at 87 37 L S Z I J := gq_cmp e_87_34 rfl
theorem e_87_37 : g_Pg 87 37 = ga_aload 0 38 := (congrFun pg_87 37).trans rfl
theorem q_87_37 {l1 l2 l3 l4 : Value} {x : Nat} {S : List Value} {Z : gZ} {I : gI} {J : gJ} : g_at 87 37 [.ref x, l1, l2, l3, l4] S Z I J = g_at 87 38 [.ref x, l1, l2, l3, l4] (.ref x :: S) Z I J := gq_aload e_87_37 rfl
theorem e_87_38 : g_Pg 87 38 = ga_getR 7 8 41 := (congrFun pg_87 38).trans rfl
theorem q_87_38 {L : List Value} {a : Nat} {S : List Value} {Z : gZ} {I : gI} {J : gJ} (h : (gKd Z a).1 = 7) (h1 : gRs Z a 8 = true) : g_at 87 38 L (.ref a :: S) Z I J = g_at 87 41 L (.ref (gRq Z a 8) :: S) Z I J := gq_getR e_87_38 h h1
theorem e_87_41 : g_Pg 87 41 = ga_aload 0 42 := (congrFun pg_87 41).trans rfl
theorem q_87_41 {l1 l2 l3 l4 : Value} {x : Nat} {S : List Value} {Z : gZ} {I : gI} {J : gJ} : g_at 87 41 [.ref x, l1, l2, l3, l4] S Z I J = g_at 87 42 [.ref x, l1, l2, l3, l4] (.ref x :: S) Z I J := gq_aload e_87_41 rfl
theorem e_87_42 : g_Pg 87 42 = ga_getI 7 7 45 := (congrFun pg_87 42).trans rfl
theorem q_87_42 {L : List Value} {a : Nat} {S : List Value} {Z : gZ} {I : gI} {J : gJ} (h : (gKd Z a).1 = 7) : g_at 87 42 L (.ref a :: S) Z I J = g_at 87 45 L (.int (I a 7) :: S) Z I J := gq_getI e_87_42 h
theorem e_87_45 : g_Pg 87 45 = ga_iload 4 47 := (congrFun pg_87 45).trans rfl
theorem q_87_45 {l0 l1 l2 l3 : Value} {x : Int32} {S : List Value} {Z : gZ} {I : gI} {J : gJ} : g_at 87 45 [l0, l1, l2, l3, .int x] S Z I J = g_at 87 47 [l0, l1, l2, l3, .int x] (.int x :: S) Z I J := gq_iload e_87_45 rfl
theorem e_87_47 : g_Pg 87 47 = ga_bin (fun x y => x + y) 48 := (congrFun pg_87 47).trans rfl
theorem q_87_47 {L : List Value} {x y : Int32} {S : List Value} {Z : gZ} {I : gI} {J : gJ} : g_at 87 47 L (.int y :: .int x :: S) Z I J = g_at 87 48 L (.int (x + y) :: S) Z I J := gq_bin e_87_47
theorem e_87_48 : g_Pg 87 48 = ga_lload 1 49 := (congrFun pg_87 48).trans rfl
theorem q_87_48 {l0 l2 l3 l4 : Value} {x : Int64} {S : List Value} {Z : gZ} {I : gI} {J : gJ} : g_at 87 48 [l0, .long x, l2, l3, l4] S Z I J = g_at 87 49 [l0, .long x, l2, l3, l4] (.long x :: S) Z I J := gq_lload e_87_48 rfl
theorem e_87_49 : g_Pg 87 49 = ga_push (.int 8) 51 := (congrFun pg_87 49).trans rfl
theorem q_87_49 {L : List Value} {S : List Value} {Z : gZ} {I : gI} {J : gJ} : g_at 87 49 L S Z I J = g_at 87 51 L (.int 8 :: S) Z I J := gq_push e_87_49
theorem e_87_51 : g_Pg 87 51 = ga_iload 4 53 := (congrFun pg_87 51).trans rfl
theorem q_87_51 {l0 l1 l2 l3 : Value} {x : Int32} {S : List Value} {Z : gZ} {I : gI} {J : gJ} : g_at 87 51 [l0, l1, l2, l3, .int x] S Z I J = g_at 87 53 [l0, l1, l2, l3, .int x] (.int x :: S) Z I J := gq_iload e_87_51 rfl
theorem e_87_53 : g_Pg 87 53 = ga_bin (fun x y => x * y) 54 := (congrFun pg_87 53).trans rfl
theorem q_87_53 {L : List Value} {x y : Int32} {S : List Value} {Z : gZ} {I : gI} {J : gJ} : g_at 87 53 L (.int y :: .int x :: S) Z I J = g_at 87 54 L (.int (x * y) :: S) Z I J := gq_bin e_87_53
theorem e_87_54 : g_Pg 87 54 = ga_lsh (fun x y => x >>> (y.toInt64 &&& 63)) 55 := (congrFun pg_87 54).trans rfl
theorem q_87_54 {L : List Value} {x : Int64} {y : Int32} {S : List Value} {Z : gZ} {I : gI} {J : gJ} : g_at 87 54 L (.int y :: .long x :: S) Z I J = g_at 87 55 L (.long (x >>> (y.toInt64 &&& 63)) :: S) Z I J := gq_lsh e_87_54
theorem e_87_55 : g_Pg 87 55 = ga_push (.long 255) 58 := (congrFun pg_87 55).trans rfl
theorem q_87_55 {L : List Value} {S : List Value} {Z : gZ} {I : gI} {J : gJ} : g_at 87 55 L S Z I J = g_at 87 58 L (.long 255 :: S) Z I J := gq_push e_87_55
theorem e_87_58 : g_Pg 87 58 = ga_lbin (fun x y => x &&& y) 59 := (congrFun pg_87 58).trans rfl
theorem q_87_58 {L : List Value} {x y : Int64} {S : List Value} {Z : gZ} {I : gI} {J : gJ} : g_at 87 58 L (.long y :: .long x :: S) Z I J = g_at 87 59 L (.long (x &&& y) :: S) Z I J := gq_lbin e_87_58
theorem e_87_59 : g_Pg 87 59 = ga_l2i 60 := (congrFun pg_87 59).trans rfl
theorem q_87_59 {L : List Value} {x : Int64} {S : List Value} {Z : gZ} {I : gI} {J : gJ} : g_at 87 59 L (.long x :: S) Z I J = g_at 87 60 L (.int x.toInt32 :: S) Z I J := gq_l2i e_87_59
theorem e_87_60 : g_Pg 87 60 = ga_iast 61 := (congrFun pg_87 60).trans rfl
theorem q_87_60 {L : List Value} {a : Nat} {i : Int32} {v : Int32} {S : List Value} {Z : gZ} {I : gI} {J : gJ} (h : (gKd Z a).1 = 8) (h0 : 0 ≤ i) (h1 : i.toNatClampNeg < (gKd Z a).2) : g_at 87 60 L (.int v :: .int i :: .ref a :: S) Z I J = g_at 87 61 L S Z (va_up I a (va_up (I a) i.toNatClampNeg v)) J := gq_iast e_87_60 h h0 h1
theorem e_87_61 : g_Pg 87 61 = ga_iinc 4 1 64 := (congrFun pg_87 61).trans rfl
theorem q_87_61 {l0 l1 l2 l3 : Value} {x : Int32} {S : List Value} {Z : gZ} {I : gI} {J : gJ} (h : gN1 l3 = true) : g_at 87 61 [l0, l1, l2, l3, .int x] S Z I J = g_at 87 64 [l0, l1, l2, l3, .int (x + 1)] S Z I J := gq_iinc e_87_61 rfl h rfl
theorem e_87_64 : g_Pg 87 64 = ga_goto 31 := (congrFun pg_87 64).trans rfl
theorem q_87_64 {L : List Value} {S : List Value} {Z : gZ} {I : gI} {J : gJ} : g_at 87 64 L S Z I J = g_at 87 31 L S Z I J := gq_goto e_87_64
theorem e_87_67 : g_Pg 87 67 = ga_aload 0 68 := (congrFun pg_87 67).trans rfl
theorem q_87_67 {l1 l2 l3 l4 : Value} {x : Nat} {S : List Value} {Z : gZ} {I : gI} {J : gJ} : g_at 87 67 [.ref x, l1, l2, l3, l4] S Z I J = g_at 87 68 [.ref x, l1, l2, l3, l4] (.ref x :: S) Z I J := gq_aload e_87_67 rfl
theorem e_87_68 : g_Pg 87 68 = ga_dup 69 := (congrFun pg_87 68).trans rfl
theorem q_87_68 {L : List Value} {x : Nat} {S : List Value} {Z : gZ} {I : gI} {J : gJ} : g_at 87 68 L (.ref x :: S) Z I J = g_at 87 69 L (.ref x :: .ref x :: S) Z I J := gq_dup e_87_68
theorem e_87_69 : g_Pg 87 69 = ga_getI 7 7 72 := (congrFun pg_87 69).trans rfl
theorem q_87_69 {L : List Value} {a : Nat} {S : List Value} {Z : gZ} {I : gI} {J : gJ} (h : (gKd Z a).1 = 7) : g_at 87 69 L (.ref a :: S) Z I J = g_at 87 72 L (.int (I a 7) :: S) Z I J := gq_getI e_87_69 h
theorem e_87_72 : g_Pg 87 72 = ga_iload 3 73 := (congrFun pg_87 72).trans rfl
theorem q_87_72 {l0 l1 l2 l4 : Value} {x : Int32} {S : List Value} {Z : gZ} {I : gI} {J : gJ} : g_at 87 72 [l0, l1, l2, .int x, l4] S Z I J = g_at 87 73 [l0, l1, l2, .int x, l4] (.int x :: S) Z I J := gq_iload e_87_72 rfl
theorem e_87_73 : g_Pg 87 73 = ga_bin (fun x y => x + y) 74 := (congrFun pg_87 73).trans rfl
theorem q_87_73 {L : List Value} {x y : Int32} {S : List Value} {Z : gZ} {I : gI} {J : gJ} : g_at 87 73 L (.int y :: .int x :: S) Z I J = g_at 87 74 L (.int (x + y) :: S) Z I J := gq_bin e_87_73
theorem e_87_74 : g_Pg 87 74 = ga_putI 7 7 77 := (congrFun pg_87 74).trans rfl
theorem q_87_74 {L : List Value} {a : Nat} {v : Int32} {S : List Value} {Z : gZ} {I : gI} {J : gJ} (h : (gKd Z a).1 = 7) : g_at 87 74 L (.int v :: .ref a :: S) Z I J = g_at 87 77 L S Z (va_up I a (va_up (I a) 7 v)) J := gq_putI e_87_74 h
theorem e_87_77 : g_Pg 87 77 = ga_aload 0 78 := (congrFun pg_87 77).trans rfl
theorem q_87_77 {l1 l2 l3 l4 : Value} {x : Nat} {S : List Value} {Z : gZ} {I : gI} {J : gJ} : g_at 87 77 [.ref x, l1, l2, l3, l4] S Z I J = g_at 87 78 [.ref x, l1, l2, l3, l4] (.ref x :: S) Z I J := gq_aload e_87_77 rfl
theorem e_87_78 : g_Pg 87 78 = ga_getI 7 7 81 := (congrFun pg_87 78).trans rfl
theorem q_87_78 {L : List Value} {a : Nat} {S : List Value} {Z : gZ} {I : gI} {J : gJ} (h : (gKd Z a).1 = 7) : g_at 87 78 L (.ref a :: S) Z I J = g_at 87 81 L (.int (I a 7) :: S) Z I J := gq_getI e_87_78 h
theorem e_87_81 : g_Pg 87 81 = ga_iret := (congrFun pg_87 81).trans rfl
theorem q_87_81 {L : List Value} {x : Int32} {Z : gZ} {I : gI} {J : gJ} : g_at 87 81 L [.int x] Z I J = some (some (.int x), Z, I, J) := gq_iret e_87_81
theorem e_88_0 : g_Pg 88 0 = ga_aload 0 1 := (congrFun pg_88 0).trans rfl
theorem q_88_0 {l1 : Value} {x : Nat} {S : List Value} {Z : gZ} {I : gI} {J : gJ} : g_at 88 0 [.ref x, l1] S Z I J = g_at 88 1 [.ref x, l1] (.ref x :: S) Z I J := gq_aload e_88_0 rfl
theorem e_88_1 : g_Pg 88 1 = ga_getI 7 7 4 := (congrFun pg_88 1).trans rfl
theorem q_88_1 {L : List Value} {a : Nat} {S : List Value} {Z : gZ} {I : gI} {J : gJ} (h : (gKd Z a).1 = 7) : g_at 88 1 L (.ref a :: S) Z I J = g_at 88 4 L (.int (I a 7) :: S) Z I J := gq_getI e_88_1 h
theorem e_88_4 : g_Pg 88 4 = ga_istore 1 5 := (congrFun pg_88 4).trans rfl
theorem q_88_4 {l0 l1 : Value} {x : Int32} {S : List Value} {Z : gZ} {I : gI} {J : gJ} (h : gN1 l0 = true) : g_at 88 4 [l0, l1] (.int x :: S) Z I J = g_at 88 5 [l0, .int x] S Z I J := gq_istore e_88_4 h rfl rfl
theorem e_88_5 : g_Pg 88 5 = ga_aload 0 6 := (congrFun pg_88 5).trans rfl
theorem q_88_5 {l1 : Value} {x : Nat} {S : List Value} {Z : gZ} {I : gI} {J : gJ} : g_at 88 5 [.ref x, l1] S Z I J = g_at 88 6 [.ref x, l1] (.ref x :: S) Z I J := gq_aload e_88_5 rfl
theorem e_88_6 : g_Pg 88 6 = ga_push (.int 0) 7 := (congrFun pg_88 6).trans rfl
theorem q_88_6 {L : List Value} {S : List Value} {Z : gZ} {I : gI} {J : gJ} : g_at 88 6 L S Z I J = g_at 88 7 L (.int 0 :: S) Z I J := gq_push e_88_6
theorem e_88_7 : g_Pg 88 7 = ga_putI 7 7 10 := (congrFun pg_88 7).trans rfl
theorem q_88_7 {L : List Value} {a : Nat} {v : Int32} {S : List Value} {Z : gZ} {I : gI} {J : gJ} (h : (gKd Z a).1 = 7) : g_at 88 7 L (.int v :: .ref a :: S) Z I J = g_at 88 10 L S Z (va_up I a (va_up (I a) 7 v)) J := gq_putI e_88_7 h
theorem e_88_10 : g_Pg 88 10 = ga_iload 1 11 := (congrFun pg_88 10).trans rfl
theorem q_88_10 {l0 : Value} {x : Int32} {S : List Value} {Z : gZ} {I : gI} {J : gJ} : g_at 88 10 [l0, .int x] S Z I J = g_at 88 11 [l0, .int x] (.int x :: S) Z I J := gq_iload e_88_10 rfl
theorem e_88_11 : g_Pg 88 11 = ga_iret := (congrFun pg_88 11).trans rfl
theorem q_88_11 {L : List Value} {x : Int32} {Z : gZ} {I : gI} {J : gJ} : g_at 88 11 L [.int x] Z I J = some (some (.int x), Z, I, J) := gq_iret e_88_11
theorem e_89_0 : g_Pg 89 0 = ga_aload 0 1 := (congrFun pg_89 0).trans rfl
theorem q_89_0 {x : Nat} {S : List Value} {Z : gZ} {I : gI} {J : gJ} : g_at 89 0 [.ref x] S Z I J = g_at 89 1 [.ref x] (.ref x :: S) Z I J := gq_aload e_89_0 rfl
theorem e_89_1 : g_Pg 89 1 = ga_getI 7 9 4 := (congrFun pg_89 1).trans rfl
theorem q_89_1 {L : List Value} {a : Nat} {S : List Value} {Z : gZ} {I : gI} {J : gJ} (h : (gKd Z a).1 = 7) : g_at 89 1 L (.ref a :: S) Z I J = g_at 89 4 L (.int (I a 9) :: S) Z I J := gq_getI e_89_1 h
theorem e_89_4 : g_Pg 89 4 = ga_aload 0 5 := (congrFun pg_89 4).trans rfl
theorem q_89_4 {x : Nat} {S : List Value} {Z : gZ} {I : gI} {J : gJ} : g_at 89 4 [.ref x] S Z I J = g_at 89 5 [.ref x] (.ref x :: S) Z I J := gq_aload e_89_4 rfl
theorem e_89_5 : g_Pg 89 5 = ga_getI 7 7 8 := (congrFun pg_89 5).trans rfl
theorem q_89_5 {L : List Value} {a : Nat} {S : List Value} {Z : gZ} {I : gI} {J : gJ} (h : (gKd Z a).1 = 7) : g_at 89 5 L (.ref a :: S) Z I J = g_at 89 8 L (.int (I a 7) :: S) Z I J := gq_getI e_89_5 h
theorem e_89_8 : g_Pg 89 8 = ga_cmp (fun x y => decide (y ≤ x)) 38 11 := (congrFun pg_89 8).trans rfl
theorem q_89_8 {L : List Value} {x y : Int32} {S : List Value} {Z : gZ} {I : gI} {J : gJ} : g_at 89 8 L (.int y :: .int x :: S) Z I J = if y ≤ x then g_at 89 38 L S Z I J else g_at 89 11 L S Z I J := gq_cmp e_89_8 rfl
theorem e_89_11 : g_Pg 89 11 = ga_aload 0 12 := (congrFun pg_89 11).trans rfl
theorem q_89_11 {x : Nat} {S : List Value} {Z : gZ} {I : gI} {J : gJ} : g_at 89 11 [.ref x] S Z I J = g_at 89 12 [.ref x] (.ref x :: S) Z I J := gq_aload e_89_11 rfl
theorem e_89_12 : g_Pg 89 12 = ga_getR 7 8 15 := (congrFun pg_89 12).trans rfl
theorem q_89_12 {L : List Value} {a : Nat} {S : List Value} {Z : gZ} {I : gI} {J : gJ} (h : (gKd Z a).1 = 7) (h1 : gRs Z a 8 = true) : g_at 89 12 L (.ref a :: S) Z I J = g_at 89 15 L (.ref (gRq Z a 8) :: S) Z I J := gq_getR e_89_12 h h1
theorem e_89_15 : g_Pg 89 15 = ga_aload 0 16 := (congrFun pg_89 15).trans rfl
theorem q_89_15 {x : Nat} {S : List Value} {Z : gZ} {I : gI} {J : gJ} : g_at 89 15 [.ref x] S Z I J = g_at 89 16 [.ref x] (.ref x :: S) Z I J := gq_aload e_89_15 rfl
theorem e_89_16 : g_Pg 89 16 = ga_getI 7 9 19 := (congrFun pg_89 16).trans rfl
theorem q_89_16 {L : List Value} {a : Nat} {S : List Value} {Z : gZ} {I : gI} {J : gJ} (h : (gKd Z a).1 = 7) : g_at 89 16 L (.ref a :: S) Z I J = g_at 89 19 L (.int (I a 9) :: S) Z I J := gq_getI e_89_16 h
theorem e_89_19 : g_Pg 89 19 = ga_iald 20 := (congrFun pg_89 19).trans rfl
theorem q_89_19 {L : List Value} {a : Nat} {i : Int32} {S : List Value} {Z : gZ} {I : gI} {J : gJ} (h : gTg8 (gKd Z a).1 a = true) (h0 : 0 ≤ i) (h1 : i.toNatClampNeg < (gKd Z a).2) : g_at 89 19 L (.int i :: .ref a :: S) Z I J = g_at 89 20 L (.int (I a i.toNatClampNeg) :: S) Z I J := gq_iald e_89_19 h h0 h1
theorem e_89_20 : g_Pg 89 20 = ga_push (.int 32) 22 := (congrFun pg_89 20).trans rfl
theorem q_89_20 {L : List Value} {S : List Value} {Z : gZ} {I : gI} {J : gJ} : g_at 89 20 L S Z I J = g_at 89 22 L (.int 32 :: S) Z I J := gq_push e_89_20
theorem e_89_22 : g_Pg 89 22 = ga_cmp (fun x y => decide (¬ x = y)) 38 25 := (congrFun pg_89 22).trans rfl
theorem q_89_22 {L : List Value} {x y : Int32} {S : List Value} {Z : gZ} {I : gI} {J : gJ} : g_at 89 22 L (.int y :: .int x :: S) Z I J = if ¬ x = y then g_at 89 38 L S Z I J else g_at 89 25 L S Z I J := gq_cmp e_89_22 rfl
theorem e_89_25 : g_Pg 89 25 = ga_aload 0 26 := (congrFun pg_89 25).trans rfl
theorem q_89_25 {x : Nat} {S : List Value} {Z : gZ} {I : gI} {J : gJ} : g_at 89 25 [.ref x] S Z I J = g_at 89 26 [.ref x] (.ref x :: S) Z I J := gq_aload e_89_25 rfl
theorem e_89_26 : g_Pg 89 26 = ga_dup 27 := (congrFun pg_89 26).trans rfl
theorem q_89_26 {L : List Value} {x : Nat} {S : List Value} {Z : gZ} {I : gI} {J : gJ} : g_at 89 26 L (.ref x :: S) Z I J = g_at 89 27 L (.ref x :: .ref x :: S) Z I J := gq_dup e_89_26
theorem e_89_27 : g_Pg 89 27 = ga_getI 7 9 30 := (congrFun pg_89 27).trans rfl
theorem q_89_27 {L : List Value} {a : Nat} {S : List Value} {Z : gZ} {I : gI} {J : gJ} (h : (gKd Z a).1 = 7) : g_at 89 27 L (.ref a :: S) Z I J = g_at 89 30 L (.int (I a 9) :: S) Z I J := gq_getI e_89_27 h
theorem e_89_30 : g_Pg 89 30 = ga_push (.int 1) 31 := (congrFun pg_89 30).trans rfl
theorem q_89_30 {L : List Value} {S : List Value} {Z : gZ} {I : gI} {J : gJ} : g_at 89 30 L S Z I J = g_at 89 31 L (.int 1 :: S) Z I J := gq_push e_89_30
theorem e_89_31 : g_Pg 89 31 = ga_bin (fun x y => x + y) 32 := (congrFun pg_89 31).trans rfl
theorem q_89_31 {L : List Value} {x y : Int32} {S : List Value} {Z : gZ} {I : gI} {J : gJ} : g_at 89 31 L (.int y :: .int x :: S) Z I J = g_at 89 32 L (.int (x + y) :: S) Z I J := gq_bin e_89_31
theorem e_89_32 : g_Pg 89 32 = ga_putI 7 9 35 := (congrFun pg_89 32).trans rfl
theorem q_89_32 {L : List Value} {a : Nat} {v : Int32} {S : List Value} {Z : gZ} {I : gI} {J : gJ} (h : (gKd Z a).1 = 7) : g_at 89 32 L (.int v :: .ref a :: S) Z I J = g_at 89 35 L S Z (va_up I a (va_up (I a) 9 v)) J := gq_putI e_89_32 h
theorem e_89_35 : g_Pg 89 35 = ga_goto 0 := (congrFun pg_89 35).trans rfl
theorem q_89_35 {L : List Value} {S : List Value} {Z : gZ} {I : gI} {J : gJ} : g_at 89 35 L S Z I J = g_at 89 0 L S Z I J := gq_goto e_89_35
theorem e_89_38 : g_Pg 89 38 = ga_aload 0 39 := (congrFun pg_89 38).trans rfl
theorem q_89_38 {x : Nat} {S : List Value} {Z : gZ} {I : gI} {J : gJ} : g_at 89 38 [.ref x] S Z I J = g_at 89 39 [.ref x] (.ref x :: S) Z I J := gq_aload e_89_38 rfl
theorem e_89_39 : g_Pg 89 39 = ga_aload 0 40 := (congrFun pg_89 39).trans rfl
theorem q_89_39 {x : Nat} {S : List Value} {Z : gZ} {I : gI} {J : gJ} : g_at 89 39 [.ref x] S Z I J = g_at 89 40 [.ref x] (.ref x :: S) Z I J := gq_aload e_89_39 rfl
theorem e_89_40 : g_Pg 89 40 = ga_getI 7 9 43 := (congrFun pg_89 40).trans rfl
theorem q_89_40 {L : List Value} {a : Nat} {S : List Value} {Z : gZ} {I : gI} {J : gJ} (h : (gKd Z a).1 = 7) : g_at 89 40 L (.ref a :: S) Z I J = g_at 89 43 L (.int (I a 9) :: S) Z I J := gq_getI e_89_40 h
theorem e_89_43 : g_Pg 89 43 = ga_putI 7 10 46 := (congrFun pg_89 43).trans rfl
theorem q_89_43 {L : List Value} {a : Nat} {v : Int32} {S : List Value} {Z : gZ} {I : gI} {J : gJ} (h : (gKd Z a).1 = 7) : g_at 89 43 L (.int v :: .ref a :: S) Z I J = g_at 89 46 L S Z (va_up I a (va_up (I a) 10 v)) J := gq_putI e_89_43 h
theorem e_89_46 : g_Pg 89 46 = ga_aload 0 47 := (congrFun pg_89 46).trans rfl
theorem q_89_46 {x : Nat} {S : List Value} {Z : gZ} {I : gI} {J : gJ} : g_at 89 46 [.ref x] S Z I J = g_at 89 47 [.ref x] (.ref x :: S) Z I J := gq_aload e_89_46 rfl
theorem e_89_47 : g_Pg 89 47 = ga_push (.int 0) 48 := (congrFun pg_89 47).trans rfl
theorem q_89_47 {L : List Value} {S : List Value} {Z : gZ} {I : gI} {J : gJ} : g_at 89 47 L S Z I J = g_at 89 48 L (.int 0 :: S) Z I J := gq_push e_89_47
theorem e_89_48 : g_Pg 89 48 = ga_putI 7 12 51 := (congrFun pg_89 48).trans rfl
theorem q_89_48 {L : List Value} {a : Nat} {v : Int32} {S : List Value} {Z : gZ} {I : gI} {J : gJ} (h : (gKd Z a).1 = 7) : g_at 89 48 L (.int v :: .ref a :: S) Z I J = g_at 89 51 L S Z (va_up I a (va_up (I a) 12 v)) J := gq_putI e_89_48 h
theorem e_89_51 : g_Pg 89 51 = ga_aload 0 52 := (congrFun pg_89 51).trans rfl
theorem q_89_51 {x : Nat} {S : List Value} {Z : gZ} {I : gI} {J : gJ} : g_at 89 51 [.ref x] S Z I J = g_at 89 52 [.ref x] (.ref x :: S) Z I J := gq_aload e_89_51 rfl
theorem e_89_52 : g_Pg 89 52 = ga_push (.int 0) 53 := (congrFun pg_89 52).trans rfl
theorem q_89_52 {L : List Value} {S : List Value} {Z : gZ} {I : gI} {J : gJ} : g_at 89 52 L S Z I J = g_at 89 53 L (.int 0 :: S) Z I J := gq_push e_89_52
theorem e_89_53 : g_Pg 89 53 = ga_putI 7 13 56 := (congrFun pg_89 53).trans rfl
theorem q_89_53 {L : List Value} {a : Nat} {v : Int32} {S : List Value} {Z : gZ} {I : gI} {J : gJ} (h : (gKd Z a).1 = 7) : g_at 89 53 L (.int v :: .ref a :: S) Z I J = g_at 89 56 L S Z (va_up I a (va_up (I a) 13 v)) J := gq_putI e_89_53 h
theorem e_89_56 : g_Pg 89 56 = ga_aload 0 57 := (congrFun pg_89 56).trans rfl
theorem q_89_56 {x : Nat} {S : List Value} {Z : gZ} {I : gI} {J : gJ} : g_at 89 56 [.ref x] S Z I J = g_at 89 57 [.ref x] (.ref x :: S) Z I J := gq_aload e_89_56 rfl
theorem e_89_57 : g_Pg 89 57 = ga_getI 7 9 60 := (congrFun pg_89 57).trans rfl
theorem q_89_57 {L : List Value} {a : Nat} {S : List Value} {Z : gZ} {I : gI} {J : gJ} (h : (gKd Z a).1 = 7) : g_at 89 57 L (.ref a :: S) Z I J = g_at 89 60 L (.int (I a 9) :: S) Z I J := gq_getI e_89_57 h
theorem e_89_60 : g_Pg 89 60 = ga_aload 0 61 := (congrFun pg_89 60).trans rfl
theorem q_89_60 {x : Nat} {S : List Value} {Z : gZ} {I : gI} {J : gJ} : g_at 89 60 [.ref x] S Z I J = g_at 89 61 [.ref x] (.ref x :: S) Z I J := gq_aload e_89_60 rfl
theorem e_89_61 : g_Pg 89 61 = ga_getI 7 7 64 := (congrFun pg_89 61).trans rfl
theorem q_89_61 {L : List Value} {a : Nat} {S : List Value} {Z : gZ} {I : gI} {J : gJ} (h : (gKd Z a).1 = 7) : g_at 89 61 L (.ref a :: S) Z I J = g_at 89 64 L (.int (I a 7) :: S) Z I J := gq_getI e_89_61 h
theorem e_89_64 : g_Pg 89 64 = ga_cmp (fun x y => decide (¬ x = y)) 77 67 := (congrFun pg_89 64).trans rfl
theorem q_89_64 {L : List Value} {x y : Int32} {S : List Value} {Z : gZ} {I : gI} {J : gJ} : g_at 89 64 L (.int y :: .int x :: S) Z I J = if ¬ x = y then g_at 89 77 L S Z I J else g_at 89 67 L S Z I J := gq_cmp e_89_64 rfl
theorem e_89_67 : g_Pg 89 67 = ga_aload 0 68 := (congrFun pg_89 67).trans rfl
theorem q_89_67 {x : Nat} {S : List Value} {Z : gZ} {I : gI} {J : gJ} : g_at 89 67 [.ref x] S Z I J = g_at 89 68 [.ref x] (.ref x :: S) Z I J := gq_aload e_89_67 rfl
theorem e_89_68 : g_Pg 89 68 = ga_push (.long (-2)) 71 := (congrFun pg_89 68).trans rfl
theorem q_89_68 {L : List Value} {S : List Value} {Z : gZ} {I : gI} {J : gJ} : g_at 89 68 L S Z I J = g_at 89 71 L (.long (-2) :: S) Z I J := gq_push e_89_68
theorem e_89_71 : g_Pg 89 71 = ga_putL 7 11 74 := (congrFun pg_89 71).trans rfl
theorem q_89_71 {L : List Value} {a : Nat} {v : Int64} {S : List Value} {Z : gZ} {I : gI} {J : gJ} (h : (gKd Z a).1 = 7) : g_at 89 71 L (.long v :: .ref a :: S) Z I J = g_at 89 74 L S Z I (va_up J a (va_up (J a) 11 v)) := gq_putL e_89_71 h
theorem e_89_74 : g_Pg 89 74 = ga_goto 394 := (congrFun pg_89 74).trans rfl
theorem q_89_74 {L : List Value} {S : List Value} {Z : gZ} {I : gI} {J : gJ} : g_at 89 74 L S Z I J = g_at 89 394 L S Z I J := gq_goto e_89_74
theorem e_89_77 : g_Pg 89 77 = ga_aload 0 78 := (congrFun pg_89 77).trans rfl
theorem q_89_77 {x : Nat} {S : List Value} {Z : gZ} {I : gI} {J : gJ} : g_at 89 77 [.ref x] S Z I J = g_at 89 78 [.ref x] (.ref x :: S) Z I J := gq_aload e_89_77 rfl
theorem e_89_78 : g_Pg 89 78 = ga_getR 7 8 81 := (congrFun pg_89 78).trans rfl
theorem q_89_78 {L : List Value} {a : Nat} {S : List Value} {Z : gZ} {I : gI} {J : gJ} (h : (gKd Z a).1 = 7) (h1 : gRs Z a 8 = true) : g_at 89 78 L (.ref a :: S) Z I J = g_at 89 81 L (.ref (gRq Z a 8) :: S) Z I J := gq_getR e_89_78 h h1
theorem e_89_81 : g_Pg 89 81 = ga_aload 0 82 := (congrFun pg_89 81).trans rfl
theorem q_89_81 {x : Nat} {S : List Value} {Z : gZ} {I : gI} {J : gJ} : g_at 89 81 [.ref x] S Z I J = g_at 89 82 [.ref x] (.ref x :: S) Z I J := gq_aload e_89_81 rfl
theorem e_89_82 : g_Pg 89 82 = ga_getI 7 9 85 := (congrFun pg_89 82).trans rfl
theorem q_89_82 {L : List Value} {a : Nat} {S : List Value} {Z : gZ} {I : gI} {J : gJ} (h : (gKd Z a).1 = 7) : g_at 89 82 L (.ref a :: S) Z I J = g_at 89 85 L (.int (I a 9) :: S) Z I J := gq_getI e_89_82 h
theorem e_89_85 : g_Pg 89 85 = ga_iald 86 := (congrFun pg_89 85).trans rfl
theorem q_89_85 {L : List Value} {a : Nat} {i : Int32} {S : List Value} {Z : gZ} {I : gI} {J : gJ} (h : gTg8 (gKd Z a).1 a = true) (h0 : 0 ≤ i) (h1 : i.toNatClampNeg < (gKd Z a).2) : g_at 89 85 L (.int i :: .ref a :: S) Z I J = g_at 89 86 L (.int (I a i.toNatClampNeg) :: S) Z I J := gq_iald e_89_85 h h0 h1
theorem e_89_86 : g_Pg 89 86 = ga_push (.int 97) 88 := (congrFun pg_89 86).trans rfl
theorem q_89_86 {L : List Value} {S : List Value} {Z : gZ} {I : gI} {J : gJ} : g_at 89 86 L S Z I J = g_at 89 88 L (.int 97 :: S) Z I J := gq_push e_89_86
theorem e_89_88 : g_Pg 89 88 = ga_push (.int 122) 90 := (congrFun pg_89 88).trans rfl
theorem q_89_88 {L : List Value} {S : List Value} {Z : gZ} {I : gI} {J : gJ} : g_at 89 88 L S Z I J = g_at 89 90 L (.int 122 :: S) Z I J := gq_push e_89_88
theorem e_89_90 : g_Pg 89 90 = ga_call 83 3 93 := (congrFun pg_89 90).trans rfl
theorem q_89_90 {L : List Value} {a0 : Int32} {a1 : Int32} {a2 : Int32} {Z : gZ} {I : gI} {J : gJ} : g_at 89 90 L [.int a0, .int a1, .int a2] Z I J = (g_at 83 0 [.int a2, .int a1, .int a0] [] Z I J).bind (fun r => g_at 89 93 L (r.1.toList ++ []) r.2.1 r.2.2.1 r.2.2.2) := gq_call e_89_90 rfl rfl rfl rfl rfl
theorem e_89_93 : g_Pg 89 93 = ga_if (fun x => decide (x = 0)) 222 96 := (congrFun pg_89 93).trans rfl
theorem q_89_93 {L : List Value} {x : Int32} {S : List Value} {Z : gZ} {I : gI} {J : gJ} : g_at 89 93 L (.int x :: S) Z I J = if x = 0 then g_at 89 222 L S Z I J else g_at 89 96 L S Z I J := gq_if e_89_93 rfl
theorem e_89_96 : g_Pg 89 96 = ga_aload 0 97 := (congrFun pg_89 96).trans rfl
theorem q_89_96 {x : Nat} {S : List Value} {Z : gZ} {I : gI} {J : gJ} : g_at 89 96 [.ref x] S Z I J = g_at 89 97 [.ref x] (.ref x :: S) Z I J := gq_aload e_89_96 rfl
theorem e_89_97 : g_Pg 89 97 = ga_push (.long 0) 98 := (congrFun pg_89 97).trans rfl
theorem q_89_97 {L : List Value} {S : List Value} {Z : gZ} {I : gI} {J : gJ} : g_at 89 97 L S Z I J = g_at 89 98 L (.long 0 :: S) Z I J := gq_push e_89_97
theorem e_89_98 : g_Pg 89 98 = ga_putL 7 11 101 := (congrFun pg_89 98).trans rfl
theorem q_89_98 {L : List Value} {a : Nat} {v : Int64} {S : List Value} {Z : gZ} {I : gI} {J : gJ} (h : (gKd Z a).1 = 7) : g_at 89 98 L (.long v :: .ref a :: S) Z I J = g_at 89 101 L S Z I (va_up J a (va_up (J a) 11 v)) := gq_putL e_89_98 h
theorem e_89_101 : g_Pg 89 101 = ga_aload 0 102 := (congrFun pg_89 101).trans rfl
theorem q_89_101 {x : Nat} {S : List Value} {Z : gZ} {I : gI} {J : gJ} : g_at 89 101 [.ref x] S Z I J = g_at 89 102 [.ref x] (.ref x :: S) Z I J := gq_aload e_89_101 rfl
theorem e_89_102 : g_Pg 89 102 = ga_getI 7 9 105 := (congrFun pg_89 102).trans rfl
theorem q_89_102 {L : List Value} {a : Nat} {S : List Value} {Z : gZ} {I : gI} {J : gJ} (h : (gKd Z a).1 = 7) : g_at 89 102 L (.ref a :: S) Z I J = g_at 89 105 L (.int (I a 9) :: S) Z I J := gq_getI e_89_102 h
theorem e_89_105 : g_Pg 89 105 = ga_aload 0 106 := (congrFun pg_89 105).trans rfl
theorem q_89_105 {x : Nat} {S : List Value} {Z : gZ} {I : gI} {J : gJ} : g_at 89 105 [.ref x] S Z I J = g_at 89 106 [.ref x] (.ref x :: S) Z I J := gq_aload e_89_105 rfl
theorem e_89_106 : g_Pg 89 106 = ga_getI 7 7 109 := (congrFun pg_89 106).trans rfl
theorem q_89_106 {L : List Value} {a : Nat} {S : List Value} {Z : gZ} {I : gI} {J : gJ} (h : (gKd Z a).1 = 7) : g_at 89 106 L (.ref a :: S) Z I J = g_at 89 109 L (.int (I a 7) :: S) Z I J := gq_getI e_89_106 h
theorem e_89_109 : g_Pg 89 109 = ga_cmp (fun x y => decide (y ≤ x)) 191 112 := (congrFun pg_89 109).trans rfl
theorem q_89_109 {L : List Value} {x y : Int32} {S : List Value} {Z : gZ} {I : gI} {J : gJ} : g_at 89 109 L (.int y :: .int x :: S) Z I J = if y ≤ x then g_at 89 191 L S Z I J else g_at 89 112 L S Z I J := gq_cmp e_89_109 rfl
theorem e_89_112 : g_Pg 89 112 = ga_aload 0 113 := (congrFun pg_89 112).trans rfl
theorem q_89_112 {x : Nat} {S : List Value} {Z : gZ} {I : gI} {J : gJ} : g_at 89 112 [.ref x] S Z I J = g_at 89 113 [.ref x] (.ref x :: S) Z I J := gq_aload e_89_112 rfl
theorem e_89_113 : g_Pg 89 113 = ga_getR 7 8 116 := (congrFun pg_89 113).trans rfl
theorem q_89_113 {L : List Value} {a : Nat} {S : List Value} {Z : gZ} {I : gI} {J : gJ} (h : (gKd Z a).1 = 7) (h1 : gRs Z a 8 = true) : g_at 89 113 L (.ref a :: S) Z I J = g_at 89 116 L (.ref (gRq Z a 8) :: S) Z I J := gq_getR e_89_113 h h1
theorem e_89_116 : g_Pg 89 116 = ga_aload 0 117 := (congrFun pg_89 116).trans rfl
theorem q_89_116 {x : Nat} {S : List Value} {Z : gZ} {I : gI} {J : gJ} : g_at 89 116 [.ref x] S Z I J = g_at 89 117 [.ref x] (.ref x :: S) Z I J := gq_aload e_89_116 rfl
theorem e_89_117 : g_Pg 89 117 = ga_getI 7 9 120 := (congrFun pg_89 117).trans rfl
theorem q_89_117 {L : List Value} {a : Nat} {S : List Value} {Z : gZ} {I : gI} {J : gJ} (h : (gKd Z a).1 = 7) : g_at 89 117 L (.ref a :: S) Z I J = g_at 89 120 L (.int (I a 9) :: S) Z I J := gq_getI e_89_117 h
theorem e_89_120 : g_Pg 89 120 = ga_iald 121 := (congrFun pg_89 120).trans rfl
theorem q_89_120 {L : List Value} {a : Nat} {i : Int32} {S : List Value} {Z : gZ} {I : gI} {J : gJ} (h : gTg8 (gKd Z a).1 a = true) (h0 : 0 ≤ i) (h1 : i.toNatClampNeg < (gKd Z a).2) : g_at 89 120 L (.int i :: .ref a :: S) Z I J = g_at 89 121 L (.int (I a i.toNatClampNeg) :: S) Z I J := gq_iald e_89_120 h h0 h1
theorem e_89_121 : g_Pg 89 121 = ga_push (.int 97) 123 := (congrFun pg_89 121).trans rfl
theorem q_89_121 {L : List Value} {S : List Value} {Z : gZ} {I : gI} {J : gJ} : g_at 89 121 L S Z I J = g_at 89 123 L (.int 97 :: S) Z I J := gq_push e_89_121
theorem e_89_123 : g_Pg 89 123 = ga_push (.int 122) 125 := (congrFun pg_89 123).trans rfl
theorem q_89_123 {L : List Value} {S : List Value} {Z : gZ} {I : gI} {J : gJ} : g_at 89 123 L S Z I J = g_at 89 125 L (.int 122 :: S) Z I J := gq_push e_89_123
theorem e_89_125 : g_Pg 89 125 = ga_call 83 3 128 := (congrFun pg_89 125).trans rfl
theorem q_89_125 {L : List Value} {a0 : Int32} {a1 : Int32} {a2 : Int32} {Z : gZ} {I : gI} {J : gJ} : g_at 89 125 L [.int a0, .int a1, .int a2] Z I J = (g_at 83 0 [.int a2, .int a1, .int a0] [] Z I J).bind (fun r => g_at 89 128 L (r.1.toList ++ []) r.2.1 r.2.2.1 r.2.2.2) := gq_call e_89_125 rfl rfl rfl rfl rfl
theorem e_89_128 : g_Pg 89 128 = ga_if (fun x => decide (x = 0)) 191 131 := (congrFun pg_89 128).trans rfl
theorem q_89_128 {L : List Value} {x : Int32} {S : List Value} {Z : gZ} {I : gI} {J : gJ} : g_at 89 128 L (.int x :: S) Z I J = if x = 0 then g_at 89 191 L S Z I J else g_at 89 131 L S Z I J := gq_if e_89_128 rfl
theorem e_89_131 : g_Pg 89 131 = ga_aload 0 132 := (congrFun pg_89 131).trans rfl
theorem q_89_131 {x : Nat} {S : List Value} {Z : gZ} {I : gI} {J : gJ} : g_at 89 131 [.ref x] S Z I J = g_at 89 132 [.ref x] (.ref x :: S) Z I J := gq_aload e_89_131 rfl
theorem e_89_132 : g_Pg 89 132 = ga_aload 0 133 := (congrFun pg_89 132).trans rfl
theorem q_89_132 {x : Nat} {S : List Value} {Z : gZ} {I : gI} {J : gJ} : g_at 89 132 [.ref x] S Z I J = g_at 89 133 [.ref x] (.ref x :: S) Z I J := gq_aload e_89_132 rfl
theorem e_89_133 : g_Pg 89 133 = ga_getI 7 9 136 := (congrFun pg_89 133).trans rfl
theorem q_89_133 {L : List Value} {a : Nat} {S : List Value} {Z : gZ} {I : gI} {J : gJ} (h : (gKd Z a).1 = 7) : g_at 89 133 L (.ref a :: S) Z I J = g_at 89 136 L (.int (I a 9) :: S) Z I J := gq_getI e_89_133 h
theorem e_89_136 : g_Pg 89 136 = ga_aload 0 137 := (congrFun pg_89 136).trans rfl
theorem q_89_136 {x : Nat} {S : List Value} {Z : gZ} {I : gI} {J : gJ} : g_at 89 136 [.ref x] S Z I J = g_at 89 137 [.ref x] (.ref x :: S) Z I J := gq_aload e_89_136 rfl
theorem e_89_137 : g_Pg 89 137 = ga_getI 7 10 140 := (congrFun pg_89 137).trans rfl
theorem q_89_137 {L : List Value} {a : Nat} {S : List Value} {Z : gZ} {I : gI} {J : gJ} (h : (gKd Z a).1 = 7) : g_at 89 137 L (.ref a :: S) Z I J = g_at 89 140 L (.int (I a 10) :: S) Z I J := gq_getI e_89_137 h
theorem e_89_140 : g_Pg 89 140 = ga_bin (fun x y => x - y) 141 := (congrFun pg_89 140).trans rfl
theorem q_89_140 {L : List Value} {x y : Int32} {S : List Value} {Z : gZ} {I : gI} {J : gJ} : g_at 89 140 L (.int y :: .int x :: S) Z I J = g_at 89 141 L (.int (x - y) :: S) Z I J := gq_bin e_89_140
theorem e_89_141 : g_Pg 89 141 = ga_push (.int 9) 143 := (congrFun pg_89 141).trans rfl
theorem q_89_141 {L : List Value} {S : List Value} {Z : gZ} {I : gI} {J : gJ} : g_at 89 141 L S Z I J = g_at 89 143 L (.int 9 :: S) Z I J := gq_push e_89_141
theorem e_89_143 : g_Pg 89 143 = ga_cmp (fun x y => decide (y ≤ x)) 172 146 := (congrFun pg_89 143).trans rfl
theorem q_89_143 {L : List Value} {x y : Int32} {S : List Value} {Z : gZ} {I : gI} {J : gJ} : g_at 89 143 L (.int y :: .int x :: S) Z I J = if y ≤ x then g_at 89 172 L S Z I J else g_at 89 146 L S Z I J := gq_cmp e_89_143 rfl
theorem e_89_146 : g_Pg 89 146 = ga_push (.long 27) 149 := (congrFun pg_89 146).trans rfl
theorem q_89_146 {L : List Value} {S : List Value} {Z : gZ} {I : gI} {J : gJ} : g_at 89 146 L S Z I J = g_at 89 149 L (.long 27 :: S) Z I J := gq_push e_89_146
theorem e_89_149 : g_Pg 89 149 = ga_aload 0 150 := (congrFun pg_89 149).trans rfl
theorem q_89_149 {x : Nat} {S : List Value} {Z : gZ} {I : gI} {J : gJ} : g_at 89 149 [.ref x] S Z I J = g_at 89 150 [.ref x] (.ref x :: S) Z I J := gq_aload e_89_149 rfl
theorem e_89_150 : g_Pg 89 150 = ga_getL 7 11 153 := (congrFun pg_89 150).trans rfl
theorem q_89_150 {L : List Value} {a : Nat} {S : List Value} {Z : gZ} {I : gI} {J : gJ} (h : (gKd Z a).1 = 7) : g_at 89 150 L (.ref a :: S) Z I J = g_at 89 153 L (.long (J a 11) :: S) Z I J := gq_getL e_89_150 h
theorem e_89_153 : g_Pg 89 153 = ga_lbin (fun x y => x * y) 154 := (congrFun pg_89 153).trans rfl
theorem q_89_153 {L : List Value} {x y : Int64} {S : List Value} {Z : gZ} {I : gI} {J : gJ} : g_at 89 153 L (.long y :: .long x :: S) Z I J = g_at 89 154 L (.long (x * y) :: S) Z I J := gq_lbin e_89_153
theorem e_89_154 : g_Pg 89 154 = ga_aload 0 155 := (congrFun pg_89 154).trans rfl
theorem q_89_154 {x : Nat} {S : List Value} {Z : gZ} {I : gI} {J : gJ} : g_at 89 154 [.ref x] S Z I J = g_at 89 155 [.ref x] (.ref x :: S) Z I J := gq_aload e_89_154 rfl
theorem e_89_155 : g_Pg 89 155 = ga_getR 7 8 158 := (congrFun pg_89 155).trans rfl
theorem q_89_155 {L : List Value} {a : Nat} {S : List Value} {Z : gZ} {I : gI} {J : gJ} (h : (gKd Z a).1 = 7) (h1 : gRs Z a 8 = true) : g_at 89 155 L (.ref a :: S) Z I J = g_at 89 158 L (.ref (gRq Z a 8) :: S) Z I J := gq_getR e_89_155 h h1
theorem e_89_158 : g_Pg 89 158 = ga_aload 0 159 := (congrFun pg_89 158).trans rfl
theorem q_89_158 {x : Nat} {S : List Value} {Z : gZ} {I : gI} {J : gJ} : g_at 89 158 [.ref x] S Z I J = g_at 89 159 [.ref x] (.ref x :: S) Z I J := gq_aload e_89_158 rfl
theorem e_89_159 : g_Pg 89 159 = ga_getI 7 9 162 := (congrFun pg_89 159).trans rfl
theorem q_89_159 {L : List Value} {a : Nat} {S : List Value} {Z : gZ} {I : gI} {J : gJ} (h : (gKd Z a).1 = 7) : g_at 89 159 L (.ref a :: S) Z I J = g_at 89 162 L (.int (I a 9) :: S) Z I J := gq_getI e_89_159 h
theorem e_89_162 : g_Pg 89 162 = ga_iald 163 := (congrFun pg_89 162).trans rfl
theorem q_89_162 {L : List Value} {a : Nat} {i : Int32} {S : List Value} {Z : gZ} {I : gI} {J : gJ} (h : gTg8 (gKd Z a).1 a = true) (h0 : 0 ≤ i) (h1 : i.toNatClampNeg < (gKd Z a).2) : g_at 89 162 L (.int i :: .ref a :: S) Z I J = g_at 89 163 L (.int (I a i.toNatClampNeg) :: S) Z I J := gq_iald e_89_162 h h0 h1
theorem e_89_163 : g_Pg 89 163 = ga_i2l 164 := (congrFun pg_89 163).trans rfl
theorem q_89_163 {L : List Value} {x : Int32} {S : List Value} {Z : gZ} {I : gI} {J : gJ} : g_at 89 163 L (.int x :: S) Z I J = g_at 89 164 L (.long x.toInt64 :: S) Z I J := gq_i2l e_89_163
theorem e_89_164 : g_Pg 89 164 = ga_lbin (fun x y => x + y) 165 := (congrFun pg_89 164).trans rfl
theorem q_89_164 {L : List Value} {x y : Int64} {S : List Value} {Z : gZ} {I : gI} {J : gJ} : g_at 89 164 L (.long y :: .long x :: S) Z I J = g_at 89 165 L (.long (x + y) :: S) Z I J := gq_lbin e_89_164
theorem e_89_165 : g_Pg 89 165 = ga_push (.long 96) 168 := (congrFun pg_89 165).trans rfl
theorem q_89_165 {L : List Value} {S : List Value} {Z : gZ} {I : gI} {J : gJ} : g_at 89 165 L S Z I J = g_at 89 168 L (.long 96 :: S) Z I J := gq_push e_89_165
theorem e_89_168 : g_Pg 89 168 = ga_lbin (fun x y => x - y) 169 := (congrFun pg_89 168).trans rfl
theorem q_89_168 {L : List Value} {x y : Int64} {S : List Value} {Z : gZ} {I : gI} {J : gJ} : g_at 89 168 L (.long y :: .long x :: S) Z I J = g_at 89 169 L (.long (x - y) :: S) Z I J := gq_lbin e_89_168
theorem e_89_169 : g_Pg 89 169 = ga_goto 175 := (congrFun pg_89 169).trans rfl
theorem q_89_169 {L : List Value} {S : List Value} {Z : gZ} {I : gI} {J : gJ} : g_at 89 169 L S Z I J = g_at 89 175 L S Z I J := gq_goto e_89_169
theorem e_89_172 : g_Pg 89 172 = ga_push (.long (-4)) 175 := (congrFun pg_89 172).trans rfl
theorem q_89_172 {L : List Value} {S : List Value} {Z : gZ} {I : gI} {J : gJ} : g_at 89 172 L S Z I J = g_at 89 175 L (.long (-4) :: S) Z I J := gq_push e_89_172
theorem e_89_175 : g_Pg 89 175 = ga_putL 7 11 178 := (congrFun pg_89 175).trans rfl
theorem q_89_175 {L : List Value} {a : Nat} {v : Int64} {S : List Value} {Z : gZ} {I : gI} {J : gJ} (h : (gKd Z a).1 = 7) : g_at 89 175 L (.long v :: .ref a :: S) Z I J = g_at 89 178 L S Z I (va_up J a (va_up (J a) 11 v)) := gq_putL e_89_175 h
theorem e_89_178 : g_Pg 89 178 = ga_aload 0 179 := (congrFun pg_89 178).trans rfl
theorem q_89_178 {x : Nat} {S : List Value} {Z : gZ} {I : gI} {J : gJ} : g_at 89 178 [.ref x] S Z I J = g_at 89 179 [.ref x] (.ref x :: S) Z I J := gq_aload e_89_178 rfl
theorem e_89_179 : g_Pg 89 179 = ga_dup 180 := (congrFun pg_89 179).trans rfl
theorem q_89_179 {L : List Value} {x : Nat} {S : List Value} {Z : gZ} {I : gI} {J : gJ} : g_at 89 179 L (.ref x :: S) Z I J = g_at 89 180 L (.ref x :: .ref x :: S) Z I J := gq_dup e_89_179
theorem e_89_180 : g_Pg 89 180 = ga_getI 7 9 183 := (congrFun pg_89 180).trans rfl
theorem q_89_180 {L : List Value} {a : Nat} {S : List Value} {Z : gZ} {I : gI} {J : gJ} (h : (gKd Z a).1 = 7) : g_at 89 180 L (.ref a :: S) Z I J = g_at 89 183 L (.int (I a 9) :: S) Z I J := gq_getI e_89_180 h
theorem e_89_183 : g_Pg 89 183 = ga_push (.int 1) 184 := (congrFun pg_89 183).trans rfl
theorem q_89_183 {L : List Value} {S : List Value} {Z : gZ} {I : gI} {J : gJ} : g_at 89 183 L S Z I J = g_at 89 184 L (.int 1 :: S) Z I J := gq_push e_89_183
theorem e_89_184 : g_Pg 89 184 = ga_bin (fun x y => x + y) 185 := (congrFun pg_89 184).trans rfl
theorem q_89_184 {L : List Value} {x y : Int32} {S : List Value} {Z : gZ} {I : gI} {J : gJ} : g_at 89 184 L (.int y :: .int x :: S) Z I J = g_at 89 185 L (.int (x + y) :: S) Z I J := gq_bin e_89_184
theorem e_89_185 : g_Pg 89 185 = ga_putI 7 9 188 := (congrFun pg_89 185).trans rfl
theorem q_89_185 {L : List Value} {a : Nat} {v : Int32} {S : List Value} {Z : gZ} {I : gI} {J : gJ} (h : (gKd Z a).1 = 7) : g_at 89 185 L (.int v :: .ref a :: S) Z I J = g_at 89 188 L S Z (va_up I a (va_up (I a) 9 v)) J := gq_putI e_89_185 h
theorem e_89_188 : g_Pg 89 188 = ga_goto 101 := (congrFun pg_89 188).trans rfl
theorem q_89_188 {L : List Value} {S : List Value} {Z : gZ} {I : gI} {J : gJ} : g_at 89 188 L S Z I J = g_at 89 101 L S Z I J := gq_goto e_89_188
theorem e_89_191 : g_Pg 89 191 = ga_aload 0 192 := (congrFun pg_89 191).trans rfl
theorem q_89_191 {x : Nat} {S : List Value} {Z : gZ} {I : gI} {J : gJ} : g_at 89 191 [.ref x] S Z I J = g_at 89 192 [.ref x] (.ref x :: S) Z I J := gq_aload e_89_191 rfl
theorem e_89_192 : g_Pg 89 192 = ga_aload 0 193 := (congrFun pg_89 192).trans rfl
theorem q_89_192 {x : Nat} {S : List Value} {Z : gZ} {I : gI} {J : gJ} : g_at 89 192 [.ref x] S Z I J = g_at 89 193 [.ref x] (.ref x :: S) Z I J := gq_aload e_89_192 rfl
theorem e_89_193 : g_Pg 89 193 = ga_getI 7 9 196 := (congrFun pg_89 193).trans rfl
theorem q_89_193 {L : List Value} {a : Nat} {S : List Value} {Z : gZ} {I : gI} {J : gJ} (h : (gKd Z a).1 = 7) : g_at 89 193 L (.ref a :: S) Z I J = g_at 89 196 L (.int (I a 9) :: S) Z I J := gq_getI e_89_193 h
theorem e_89_196 : g_Pg 89 196 = ga_aload 0 197 := (congrFun pg_89 196).trans rfl
theorem q_89_196 {x : Nat} {S : List Value} {Z : gZ} {I : gI} {J : gJ} : g_at 89 196 [.ref x] S Z I J = g_at 89 197 [.ref x] (.ref x :: S) Z I J := gq_aload e_89_196 rfl
theorem e_89_197 : g_Pg 89 197 = ga_getI 7 10 200 := (congrFun pg_89 197).trans rfl
theorem q_89_197 {L : List Value} {a : Nat} {S : List Value} {Z : gZ} {I : gI} {J : gJ} (h : (gKd Z a).1 = 7) : g_at 89 197 L (.ref a :: S) Z I J = g_at 89 200 L (.int (I a 10) :: S) Z I J := gq_getI e_89_197 h
theorem e_89_200 : g_Pg 89 200 = ga_bin (fun x y => x - y) 201 := (congrFun pg_89 200).trans rfl
theorem q_89_200 {L : List Value} {x y : Int32} {S : List Value} {Z : gZ} {I : gI} {J : gJ} : g_at 89 200 L (.int y :: .int x :: S) Z I J = g_at 89 201 L (.int (x - y) :: S) Z I J := gq_bin e_89_200
theorem e_89_201 : g_Pg 89 201 = ga_push (.int 9) 203 := (congrFun pg_89 201).trans rfl
theorem q_89_201 {L : List Value} {S : List Value} {Z : gZ} {I : gI} {J : gJ} : g_at 89 201 L S Z I J = g_at 89 203 L (.int 9 :: S) Z I J := gq_push e_89_201
theorem e_89_203 : g_Pg 89 203 = ga_cmp (fun x y => decide (x ≤ y)) 212 206 := (congrFun pg_89 203).trans rfl
theorem q_89_203 {L : List Value} {x y : Int32} {S : List Value} {Z : gZ} {I : gI} {J : gJ} : g_at 89 203 L (.int y :: .int x :: S) Z I J = if x ≤ y then g_at 89 212 L S Z I J else g_at 89 206 L S Z I J := gq_cmp e_89_203 rfl
theorem e_89_206 : g_Pg 89 206 = ga_push (.long (-4)) 209 := (congrFun pg_89 206).trans rfl
theorem q_89_206 {L : List Value} {S : List Value} {Z : gZ} {I : gI} {J : gJ} : g_at 89 206 L S Z I J = g_at 89 209 L (.long (-4) :: S) Z I J := gq_push e_89_206
theorem e_89_209 : g_Pg 89 209 = ga_goto 216 := (congrFun pg_89 209).trans rfl
theorem q_89_209 {L : List Value} {S : List Value} {Z : gZ} {I : gI} {J : gJ} : g_at 89 209 L S Z I J = g_at 89 216 L S Z I J := gq_goto e_89_209
theorem e_89_212 : g_Pg 89 212 = ga_aload 0 213 := (congrFun pg_89 212).trans rfl
theorem q_89_212 {x : Nat} {S : List Value} {Z : gZ} {I : gI} {J : gJ} : g_at 89 212 [.ref x] S Z I J = g_at 89 213 [.ref x] (.ref x :: S) Z I J := gq_aload e_89_212 rfl
theorem e_89_213 : g_Pg 89 213 = ga_getL 7 11 216 := (congrFun pg_89 213).trans rfl
theorem q_89_213 {L : List Value} {a : Nat} {S : List Value} {Z : gZ} {I : gI} {J : gJ} (h : (gKd Z a).1 = 7) : g_at 89 213 L (.ref a :: S) Z I J = g_at 89 216 L (.long (J a 11) :: S) Z I J := gq_getL e_89_213 h
theorem e_89_216 : g_Pg 89 216 = ga_putL 7 11 219 := (congrFun pg_89 216).trans rfl
theorem q_89_216 {L : List Value} {a : Nat} {v : Int64} {S : List Value} {Z : gZ} {I : gI} {J : gJ} (h : (gKd Z a).1 = 7) : g_at 89 216 L (.long v :: .ref a :: S) Z I J = g_at 89 219 L S Z I (va_up J a (va_up (J a) 11 v)) := gq_putL e_89_216 h
theorem e_89_219 : g_Pg 89 219 = ga_goto 394 := (congrFun pg_89 219).trans rfl
theorem q_89_219 {L : List Value} {S : List Value} {Z : gZ} {I : gI} {J : gJ} : g_at 89 219 L S Z I J = g_at 89 394 L S Z I J := gq_goto e_89_219
theorem e_89_222 : g_Pg 89 222 = ga_aload 0 223 := (congrFun pg_89 222).trans rfl
theorem q_89_222 {x : Nat} {S : List Value} {Z : gZ} {I : gI} {J : gJ} : g_at 89 222 [.ref x] S Z I J = g_at 89 223 [.ref x] (.ref x :: S) Z I J := gq_aload e_89_222 rfl
theorem e_89_223 : g_Pg 89 223 = ga_getR 7 8 226 := (congrFun pg_89 223).trans rfl
theorem q_89_223 {L : List Value} {a : Nat} {S : List Value} {Z : gZ} {I : gI} {J : gJ} (h : (gKd Z a).1 = 7) (h1 : gRs Z a 8 = true) : g_at 89 223 L (.ref a :: S) Z I J = g_at 89 226 L (.ref (gRq Z a 8) :: S) Z I J := gq_getR e_89_223 h h1
theorem e_89_226 : g_Pg 89 226 = ga_aload 0 227 := (congrFun pg_89 226).trans rfl
theorem q_89_226 {x : Nat} {S : List Value} {Z : gZ} {I : gI} {J : gJ} : g_at 89 226 [.ref x] S Z I J = g_at 89 227 [.ref x] (.ref x :: S) Z I J := gq_aload e_89_226 rfl
theorem e_89_227 : g_Pg 89 227 = ga_getI 7 9 230 := (congrFun pg_89 227).trans rfl
theorem q_89_227 {L : List Value} {a : Nat} {S : List Value} {Z : gZ} {I : gI} {J : gJ} (h : (gKd Z a).1 = 7) : g_at 89 227 L (.ref a :: S) Z I J = g_at 89 230 L (.int (I a 9) :: S) Z I J := gq_getI e_89_227 h
theorem e_89_230 : g_Pg 89 230 = ga_iald 231 := (congrFun pg_89 230).trans rfl
theorem q_89_230 {L : List Value} {a : Nat} {i : Int32} {S : List Value} {Z : gZ} {I : gI} {J : gJ} (h : gTg8 (gKd Z a).1 a = true) (h0 : 0 ≤ i) (h1 : i.toNatClampNeg < (gKd Z a).2) : g_at 89 230 L (.int i :: .ref a :: S) Z I J = g_at 89 231 L (.int (I a i.toNatClampNeg) :: S) Z I J := gq_iald e_89_230 h h0 h1
theorem e_89_231 : g_Pg 89 231 = ga_push (.int 48) 233 := (congrFun pg_89 231).trans rfl
theorem q_89_231 {L : List Value} {S : List Value} {Z : gZ} {I : gI} {J : gJ} : g_at 89 231 L S Z I J = g_at 89 233 L (.int 48 :: S) Z I J := gq_push e_89_231
theorem e_89_233 : g_Pg 89 233 = ga_push (.int 57) 235 := (congrFun pg_89 233).trans rfl
theorem q_89_233 {L : List Value} {S : List Value} {Z : gZ} {I : gI} {J : gJ} : g_at 89 233 L S Z I J = g_at 89 235 L (.int 57 :: S) Z I J := gq_push e_89_233
theorem e_89_235 : g_Pg 89 235 = ga_call 83 3 238 := (congrFun pg_89 235).trans rfl
theorem q_89_235 {L : List Value} {a0 : Int32} {a1 : Int32} {a2 : Int32} {Z : gZ} {I : gI} {J : gJ} : g_at 89 235 L [.int a0, .int a1, .int a2] Z I J = (g_at 83 0 [.int a2, .int a1, .int a0] [] Z I J).bind (fun r => g_at 89 238 L (r.1.toList ++ []) r.2.1 r.2.2.1 r.2.2.2) := gq_call e_89_235 rfl rfl rfl rfl rfl
theorem e_89_238 : g_Pg 89 238 = ga_if (fun x => decide (x = 0)) 357 241 := (congrFun pg_89 238).trans rfl
theorem q_89_238 {L : List Value} {x : Int32} {S : List Value} {Z : gZ} {I : gI} {J : gJ} : g_at 89 238 L (.int x :: S) Z I J = if x = 0 then g_at 89 357 L S Z I J else g_at 89 241 L S Z I J := gq_if e_89_238 rfl
theorem e_89_241 : g_Pg 89 241 = ga_aload 0 242 := (congrFun pg_89 241).trans rfl
theorem q_89_241 {x : Nat} {S : List Value} {Z : gZ} {I : gI} {J : gJ} : g_at 89 241 [.ref x] S Z I J = g_at 89 242 [.ref x] (.ref x :: S) Z I J := gq_aload e_89_241 rfl
theorem e_89_242 : g_Pg 89 242 = ga_getI 7 9 245 := (congrFun pg_89 242).trans rfl
theorem q_89_242 {L : List Value} {a : Nat} {S : List Value} {Z : gZ} {I : gI} {J : gJ} (h : (gKd Z a).1 = 7) : g_at 89 242 L (.ref a :: S) Z I J = g_at 89 245 L (.int (I a 9) :: S) Z I J := gq_getI e_89_242 h
theorem e_89_245 : g_Pg 89 245 = ga_aload 0 246 := (congrFun pg_89 245).trans rfl
theorem q_89_245 {x : Nat} {S : List Value} {Z : gZ} {I : gI} {J : gJ} : g_at 89 245 [.ref x] S Z I J = g_at 89 246 [.ref x] (.ref x :: S) Z I J := gq_aload e_89_245 rfl
theorem e_89_246 : g_Pg 89 246 = ga_getI 7 7 249 := (congrFun pg_89 246).trans rfl
theorem q_89_246 {L : List Value} {a : Nat} {S : List Value} {Z : gZ} {I : gI} {J : gJ} (h : (gKd Z a).1 = 7) : g_at 89 246 L (.ref a :: S) Z I J = g_at 89 249 L (.int (I a 7) :: S) Z I J := gq_getI e_89_246 h
theorem e_89_249 : g_Pg 89 249 = ga_cmp (fun x y => decide (y ≤ x)) 333 252 := (congrFun pg_89 249).trans rfl
theorem q_89_249 {L : List Value} {x y : Int32} {S : List Value} {Z : gZ} {I : gI} {J : gJ} : g_at 89 249 L (.int y :: .int x :: S) Z I J = if y ≤ x then g_at 89 333 L S Z I J else g_at 89 252 L S Z I J := gq_cmp e_89_249 rfl
theorem e_89_252 : g_Pg 89 252 = ga_aload 0 253 := (congrFun pg_89 252).trans rfl
theorem q_89_252 {x : Nat} {S : List Value} {Z : gZ} {I : gI} {J : gJ} : g_at 89 252 [.ref x] S Z I J = g_at 89 253 [.ref x] (.ref x :: S) Z I J := gq_aload e_89_252 rfl
theorem e_89_253 : g_Pg 89 253 = ga_getR 7 8 256 := (congrFun pg_89 253).trans rfl
theorem q_89_253 {L : List Value} {a : Nat} {S : List Value} {Z : gZ} {I : gI} {J : gJ} (h : (gKd Z a).1 = 7) (h1 : gRs Z a 8 = true) : g_at 89 253 L (.ref a :: S) Z I J = g_at 89 256 L (.ref (gRq Z a 8) :: S) Z I J := gq_getR e_89_253 h h1
theorem e_89_256 : g_Pg 89 256 = ga_aload 0 257 := (congrFun pg_89 256).trans rfl
theorem q_89_256 {x : Nat} {S : List Value} {Z : gZ} {I : gI} {J : gJ} : g_at 89 256 [.ref x] S Z I J = g_at 89 257 [.ref x] (.ref x :: S) Z I J := gq_aload e_89_256 rfl
theorem e_89_257 : g_Pg 89 257 = ga_getI 7 9 260 := (congrFun pg_89 257).trans rfl
theorem q_89_257 {L : List Value} {a : Nat} {S : List Value} {Z : gZ} {I : gI} {J : gJ} (h : (gKd Z a).1 = 7) : g_at 89 257 L (.ref a :: S) Z I J = g_at 89 260 L (.int (I a 9) :: S) Z I J := gq_getI e_89_257 h
theorem e_89_260 : g_Pg 89 260 = ga_iald 261 := (congrFun pg_89 260).trans rfl
theorem q_89_260 {L : List Value} {a : Nat} {i : Int32} {S : List Value} {Z : gZ} {I : gI} {J : gJ} (h : gTg8 (gKd Z a).1 a = true) (h0 : 0 ≤ i) (h1 : i.toNatClampNeg < (gKd Z a).2) : g_at 89 260 L (.int i :: .ref a :: S) Z I J = g_at 89 261 L (.int (I a i.toNatClampNeg) :: S) Z I J := gq_iald e_89_260 h h0 h1
theorem e_89_261 : g_Pg 89 261 = ga_push (.int 48) 263 := (congrFun pg_89 261).trans rfl
theorem q_89_261 {L : List Value} {S : List Value} {Z : gZ} {I : gI} {J : gJ} : g_at 89 261 L S Z I J = g_at 89 263 L (.int 48 :: S) Z I J := gq_push e_89_261
theorem e_89_263 : g_Pg 89 263 = ga_push (.int 57) 265 := (congrFun pg_89 263).trans rfl
theorem q_89_263 {L : List Value} {S : List Value} {Z : gZ} {I : gI} {J : gJ} : g_at 89 263 L S Z I J = g_at 89 265 L (.int 57 :: S) Z I J := gq_push e_89_263
theorem e_89_265 : g_Pg 89 265 = ga_call 83 3 268 := (congrFun pg_89 265).trans rfl
theorem q_89_265 {L : List Value} {a0 : Int32} {a1 : Int32} {a2 : Int32} {Z : gZ} {I : gI} {J : gJ} : g_at 89 265 L [.int a0, .int a1, .int a2] Z I J = (g_at 83 0 [.int a2, .int a1, .int a0] [] Z I J).bind (fun r => g_at 89 268 L (r.1.toList ++ []) r.2.1 r.2.2.1 r.2.2.2) := gq_call e_89_265 rfl rfl rfl rfl rfl
theorem e_89_268 : g_Pg 89 268 = ga_if (fun x => decide (x = 0)) 333 271 := (congrFun pg_89 268).trans rfl
theorem q_89_268 {L : List Value} {x : Int32} {S : List Value} {Z : gZ} {I : gI} {J : gJ} : g_at 89 268 L (.int x :: S) Z I J = if x = 0 then g_at 89 333 L S Z I J else g_at 89 271 L S Z I J := gq_if e_89_268 rfl
theorem e_89_271 : g_Pg 89 271 = ga_aload 0 272 := (congrFun pg_89 271).trans rfl
theorem q_89_271 {x : Nat} {S : List Value} {Z : gZ} {I : gI} {J : gJ} : g_at 89 271 [.ref x] S Z I J = g_at 89 272 [.ref x] (.ref x :: S) Z I J := gq_aload e_89_271 rfl
theorem e_89_272 : g_Pg 89 272 = ga_aload 0 273 := (congrFun pg_89 272).trans rfl
theorem q_89_272 {x : Nat} {S : List Value} {Z : gZ} {I : gI} {J : gJ} : g_at 89 272 [.ref x] S Z I J = g_at 89 273 [.ref x] (.ref x :: S) Z I J := gq_aload e_89_272 rfl
theorem e_89_273 : g_Pg 89 273 = ga_getI 7 12 276 := (congrFun pg_89 273).trans rfl
theorem q_89_273 {L : List Value} {a : Nat} {S : List Value} {Z : gZ} {I : gI} {J : gJ} (h : (gKd Z a).1 = 7) : g_at 89 273 L (.ref a :: S) Z I J = g_at 89 276 L (.int (I a 12) :: S) Z I J := gq_getI e_89_273 h
theorem e_89_276 : g_Pg 89 276 = ga_push (.int 2) 277 := (congrFun pg_89 276).trans rfl
theorem q_89_276 {L : List Value} {S : List Value} {Z : gZ} {I : gI} {J : gJ} : g_at 89 276 L S Z I J = g_at 89 277 L (.int 2 :: S) Z I J := gq_push e_89_276
theorem e_89_277 : g_Pg 89 277 = ga_cmp (fun x y => decide (y ≤ x)) 303 280 := (congrFun pg_89 277).trans rfl
theorem q_89_277 {L : List Value} {x y : Int32} {S : List Value} {Z : gZ} {I : gI} {J : gJ} : g_at 89 277 L (.int y :: .int x :: S) Z I J = if y ≤ x then g_at 89 303 L S Z I J else g_at 89 280 L S Z I J := gq_cmp e_89_277 rfl
theorem e_89_280 : g_Pg 89 280 = ga_push (.int 10) 282 := (congrFun pg_89 280).trans rfl
theorem q_89_280 {L : List Value} {S : List Value} {Z : gZ} {I : gI} {J : gJ} : g_at 89 280 L S Z I J = g_at 89 282 L (.int 10 :: S) Z I J := gq_push e_89_280
theorem e_89_282 : g_Pg 89 282 = ga_aload 0 283 := (congrFun pg_89 282).trans rfl
theorem q_89_282 {x : Nat} {S : List Value} {Z : gZ} {I : gI} {J : gJ} : g_at 89 282 [.ref x] S Z I J = g_at 89 283 [.ref x] (.ref x :: S) Z I J := gq_aload e_89_282 rfl
theorem e_89_283 : g_Pg 89 283 = ga_getI 7 13 286 := (congrFun pg_89 283).trans rfl
theorem q_89_283 {L : List Value} {a : Nat} {S : List Value} {Z : gZ} {I : gI} {J : gJ} (h : (gKd Z a).1 = 7) : g_at 89 283 L (.ref a :: S) Z I J = g_at 89 286 L (.int (I a 13) :: S) Z I J := gq_getI e_89_283 h
theorem e_89_286 : g_Pg 89 286 = ga_bin (fun x y => x * y) 287 := (congrFun pg_89 286).trans rfl
theorem q_89_286 {L : List Value} {x y : Int32} {S : List Value} {Z : gZ} {I : gI} {J : gJ} : g_at 89 286 L (.int y :: .int x :: S) Z I J = g_at 89 287 L (.int (x * y) :: S) Z I J := gq_bin e_89_286
theorem e_89_287 : g_Pg 89 287 = ga_aload 0 288 := (congrFun pg_89 287).trans rfl
theorem q_89_287 {x : Nat} {S : List Value} {Z : gZ} {I : gI} {J : gJ} : g_at 89 287 [.ref x] S Z I J = g_at 89 288 [.ref x] (.ref x :: S) Z I J := gq_aload e_89_287 rfl
theorem e_89_288 : g_Pg 89 288 = ga_getR 7 8 291 := (congrFun pg_89 288).trans rfl
theorem q_89_288 {L : List Value} {a : Nat} {S : List Value} {Z : gZ} {I : gI} {J : gJ} (h : (gKd Z a).1 = 7) (h1 : gRs Z a 8 = true) : g_at 89 288 L (.ref a :: S) Z I J = g_at 89 291 L (.ref (gRq Z a 8) :: S) Z I J := gq_getR e_89_288 h h1
theorem e_89_291 : g_Pg 89 291 = ga_aload 0 292 := (congrFun pg_89 291).trans rfl
theorem q_89_291 {x : Nat} {S : List Value} {Z : gZ} {I : gI} {J : gJ} : g_at 89 291 [.ref x] S Z I J = g_at 89 292 [.ref x] (.ref x :: S) Z I J := gq_aload e_89_291 rfl
theorem e_89_292 : g_Pg 89 292 = ga_getI 7 9 295 := (congrFun pg_89 292).trans rfl
theorem q_89_292 {L : List Value} {a : Nat} {S : List Value} {Z : gZ} {I : gI} {J : gJ} (h : (gKd Z a).1 = 7) : g_at 89 292 L (.ref a :: S) Z I J = g_at 89 295 L (.int (I a 9) :: S) Z I J := gq_getI e_89_292 h
theorem e_89_295 : g_Pg 89 295 = ga_iald 296 := (congrFun pg_89 295).trans rfl
theorem q_89_295 {L : List Value} {a : Nat} {i : Int32} {S : List Value} {Z : gZ} {I : gI} {J : gJ} (h : gTg8 (gKd Z a).1 a = true) (h0 : 0 ≤ i) (h1 : i.toNatClampNeg < (gKd Z a).2) : g_at 89 295 L (.int i :: .ref a :: S) Z I J = g_at 89 296 L (.int (I a i.toNatClampNeg) :: S) Z I J := gq_iald e_89_295 h h0 h1
theorem e_89_296 : g_Pg 89 296 = ga_bin (fun x y => x + y) 297 := (congrFun pg_89 296).trans rfl
theorem q_89_296 {L : List Value} {x y : Int32} {S : List Value} {Z : gZ} {I : gI} {J : gJ} : g_at 89 296 L (.int y :: .int x :: S) Z I J = g_at 89 297 L (.int (x + y) :: S) Z I J := gq_bin e_89_296
theorem e_89_297 : g_Pg 89 297 = ga_push (.int 48) 299 := (congrFun pg_89 297).trans rfl
theorem q_89_297 {L : List Value} {S : List Value} {Z : gZ} {I : gI} {J : gJ} : g_at 89 297 L S Z I J = g_at 89 299 L (.int 48 :: S) Z I J := gq_push e_89_297
theorem e_89_299 : g_Pg 89 299 = ga_bin (fun x y => x - y) 300 := (congrFun pg_89 299).trans rfl
theorem q_89_299 {L : List Value} {x y : Int32} {S : List Value} {Z : gZ} {I : gI} {J : gJ} : g_at 89 299 L (.int y :: .int x :: S) Z I J = g_at 89 300 L (.int (x - y) :: S) Z I J := gq_bin e_89_299
theorem e_89_300 : g_Pg 89 300 = ga_goto 307 := (congrFun pg_89 300).trans rfl
theorem q_89_300 {L : List Value} {S : List Value} {Z : gZ} {I : gI} {J : gJ} : g_at 89 300 L S Z I J = g_at 89 307 L S Z I J := gq_goto e_89_300
theorem e_89_303 : g_Pg 89 303 = ga_aload 0 304 := (congrFun pg_89 303).trans rfl
theorem q_89_303 {x : Nat} {S : List Value} {Z : gZ} {I : gI} {J : gJ} : g_at 89 303 [.ref x] S Z I J = g_at 89 304 [.ref x] (.ref x :: S) Z I J := gq_aload e_89_303 rfl
theorem e_89_304 : g_Pg 89 304 = ga_getI 7 13 307 := (congrFun pg_89 304).trans rfl
theorem q_89_304 {L : List Value} {a : Nat} {S : List Value} {Z : gZ} {I : gI} {J : gJ} (h : (gKd Z a).1 = 7) : g_at 89 304 L (.ref a :: S) Z I J = g_at 89 307 L (.int (I a 13) :: S) Z I J := gq_getI e_89_304 h
theorem e_89_307 : g_Pg 89 307 = ga_putI 7 13 310 := (congrFun pg_89 307).trans rfl
theorem q_89_307 {L : List Value} {a : Nat} {v : Int32} {S : List Value} {Z : gZ} {I : gI} {J : gJ} (h : (gKd Z a).1 = 7) : g_at 89 307 L (.int v :: .ref a :: S) Z I J = g_at 89 310 L S Z (va_up I a (va_up (I a) 13 v)) J := gq_putI e_89_307 h
theorem e_89_310 : g_Pg 89 310 = ga_aload 0 311 := (congrFun pg_89 310).trans rfl
theorem q_89_310 {x : Nat} {S : List Value} {Z : gZ} {I : gI} {J : gJ} : g_at 89 310 [.ref x] S Z I J = g_at 89 311 [.ref x] (.ref x :: S) Z I J := gq_aload e_89_310 rfl
theorem e_89_311 : g_Pg 89 311 = ga_dup 312 := (congrFun pg_89 311).trans rfl
theorem q_89_311 {L : List Value} {x : Nat} {S : List Value} {Z : gZ} {I : gI} {J : gJ} : g_at 89 311 L (.ref x :: S) Z I J = g_at 89 312 L (.ref x :: .ref x :: S) Z I J := gq_dup e_89_311
theorem e_89_312 : g_Pg 89 312 = ga_getI 7 12 315 := (congrFun pg_89 312).trans rfl
theorem q_89_312 {L : List Value} {a : Nat} {S : List Value} {Z : gZ} {I : gI} {J : gJ} (h : (gKd Z a).1 = 7) : g_at 89 312 L (.ref a :: S) Z I J = g_at 89 315 L (.int (I a 12) :: S) Z I J := gq_getI e_89_312 h
theorem e_89_315 : g_Pg 89 315 = ga_push (.int 1) 316 := (congrFun pg_89 315).trans rfl
theorem q_89_315 {L : List Value} {S : List Value} {Z : gZ} {I : gI} {J : gJ} : g_at 89 315 L S Z I J = g_at 89 316 L (.int 1 :: S) Z I J := gq_push e_89_315
theorem e_89_316 : g_Pg 89 316 = ga_bin (fun x y => x + y) 317 := (congrFun pg_89 316).trans rfl
theorem q_89_316 {L : List Value} {x y : Int32} {S : List Value} {Z : gZ} {I : gI} {J : gJ} : g_at 89 316 L (.int y :: .int x :: S) Z I J = g_at 89 317 L (.int (x + y) :: S) Z I J := gq_bin e_89_316
theorem e_89_317 : g_Pg 89 317 = ga_putI 7 12 320 := (congrFun pg_89 317).trans rfl
theorem q_89_317 {L : List Value} {a : Nat} {v : Int32} {S : List Value} {Z : gZ} {I : gI} {J : gJ} (h : (gKd Z a).1 = 7) : g_at 89 317 L (.int v :: .ref a :: S) Z I J = g_at 89 320 L S Z (va_up I a (va_up (I a) 12 v)) J := gq_putI e_89_317 h
theorem e_89_320 : g_Pg 89 320 = ga_aload 0 321 := (congrFun pg_89 320).trans rfl
theorem q_89_320 {x : Nat} {S : List Value} {Z : gZ} {I : gI} {J : gJ} : g_at 89 320 [.ref x] S Z I J = g_at 89 321 [.ref x] (.ref x :: S) Z I J := gq_aload e_89_320 rfl
theorem e_89_321 : g_Pg 89 321 = ga_dup 322 := (congrFun pg_89 321).trans rfl
theorem q_89_321 {L : List Value} {x : Nat} {S : List Value} {Z : gZ} {I : gI} {J : gJ} : g_at 89 321 L (.ref x :: S) Z I J = g_at 89 322 L (.ref x :: .ref x :: S) Z I J := gq_dup e_89_321
theorem e_89_322 : g_Pg 89 322 = ga_getI 7 9 325 := (congrFun pg_89 322).trans rfl
theorem q_89_322 {L : List Value} {a : Nat} {S : List Value} {Z : gZ} {I : gI} {J : gJ} (h : (gKd Z a).1 = 7) : g_at 89 322 L (.ref a :: S) Z I J = g_at 89 325 L (.int (I a 9) :: S) Z I J := gq_getI e_89_322 h
theorem e_89_325 : g_Pg 89 325 = ga_push (.int 1) 326 := (congrFun pg_89 325).trans rfl
theorem q_89_325 {L : List Value} {S : List Value} {Z : gZ} {I : gI} {J : gJ} : g_at 89 325 L S Z I J = g_at 89 326 L (.int 1 :: S) Z I J := gq_push e_89_325
theorem e_89_326 : g_Pg 89 326 = ga_bin (fun x y => x + y) 327 := (congrFun pg_89 326).trans rfl
theorem q_89_326 {L : List Value} {x y : Int32} {S : List Value} {Z : gZ} {I : gI} {J : gJ} : g_at 89 326 L (.int y :: .int x :: S) Z I J = g_at 89 327 L (.int (x + y) :: S) Z I J := gq_bin e_89_326
theorem e_89_327 : g_Pg 89 327 = ga_putI 7 9 330 := (congrFun pg_89 327).trans rfl
theorem q_89_327 {L : List Value} {a : Nat} {v : Int32} {S : List Value} {Z : gZ} {I : gI} {J : gJ} (h : (gKd Z a).1 = 7) : g_at 89 327 L (.int v :: .ref a :: S) Z I J = g_at 89 330 L S Z (va_up I a (va_up (I a) 9 v)) J := gq_putI e_89_327 h
theorem e_89_330 : g_Pg 89 330 = ga_goto 241 := (congrFun pg_89 330).trans rfl
theorem q_89_330 {L : List Value} {S : List Value} {Z : gZ} {I : gI} {J : gJ} : g_at 89 330 L S Z I J = g_at 89 241 L S Z I J := gq_goto e_89_330
theorem e_89_333 : g_Pg 89 333 = ga_aload 0 334 := (congrFun pg_89 333).trans rfl
theorem q_89_333 {x : Nat} {S : List Value} {Z : gZ} {I : gI} {J : gJ} : g_at 89 333 [.ref x] S Z I J = g_at 89 334 [.ref x] (.ref x :: S) Z I J := gq_aload e_89_333 rfl
theorem e_89_334 : g_Pg 89 334 = ga_aload 0 335 := (congrFun pg_89 334).trans rfl
theorem q_89_334 {x : Nat} {S : List Value} {Z : gZ} {I : gI} {J : gJ} : g_at 89 334 [.ref x] S Z I J = g_at 89 335 [.ref x] (.ref x :: S) Z I J := gq_aload e_89_334 rfl
theorem e_89_335 : g_Pg 89 335 = ga_getI 7 12 338 := (congrFun pg_89 335).trans rfl
theorem q_89_335 {L : List Value} {a : Nat} {S : List Value} {Z : gZ} {I : gI} {J : gJ} (h : (gKd Z a).1 = 7) : g_at 89 335 L (.ref a :: S) Z I J = g_at 89 338 L (.int (I a 12) :: S) Z I J := gq_getI e_89_335 h
theorem e_89_338 : g_Pg 89 338 = ga_push (.int 2) 339 := (congrFun pg_89 338).trans rfl
theorem q_89_338 {L : List Value} {S : List Value} {Z : gZ} {I : gI} {J : gJ} : g_at 89 338 L S Z I J = g_at 89 339 L (.int 2 :: S) Z I J := gq_push e_89_338
theorem e_89_339 : g_Pg 89 339 = ga_cmp (fun x y => decide (x ≤ y)) 348 342 := (congrFun pg_89 339).trans rfl
theorem q_89_339 {L : List Value} {x y : Int32} {S : List Value} {Z : gZ} {I : gI} {J : gJ} : g_at 89 339 L (.int y :: .int x :: S) Z I J = if x ≤ y then g_at 89 348 L S Z I J else g_at 89 342 L S Z I J := gq_cmp e_89_339 rfl
theorem e_89_342 : g_Pg 89 342 = ga_push (.long (-4)) 345 := (congrFun pg_89 342).trans rfl
theorem q_89_342 {L : List Value} {S : List Value} {Z : gZ} {I : gI} {J : gJ} : g_at 89 342 L S Z I J = g_at 89 345 L (.long (-4) :: S) Z I J := gq_push e_89_342
theorem e_89_345 : g_Pg 89 345 = ga_goto 351 := (congrFun pg_89 345).trans rfl
theorem q_89_345 {L : List Value} {S : List Value} {Z : gZ} {I : gI} {J : gJ} : g_at 89 345 L S Z I J = g_at 89 351 L S Z I J := gq_goto e_89_345
theorem e_89_348 : g_Pg 89 348 = ga_push (.long (-1)) 351 := (congrFun pg_89 348).trans rfl
theorem q_89_348 {L : List Value} {S : List Value} {Z : gZ} {I : gI} {J : gJ} : g_at 89 348 L S Z I J = g_at 89 351 L (.long (-1) :: S) Z I J := gq_push e_89_348
theorem e_89_351 : g_Pg 89 351 = ga_putL 7 11 354 := (congrFun pg_89 351).trans rfl
theorem q_89_351 {L : List Value} {a : Nat} {v : Int64} {S : List Value} {Z : gZ} {I : gI} {J : gJ} (h : (gKd Z a).1 = 7) : g_at 89 351 L (.long v :: .ref a :: S) Z I J = g_at 89 354 L S Z I (va_up J a (va_up (J a) 11 v)) := gq_putL e_89_351 h
theorem e_89_354 : g_Pg 89 354 = ga_goto 394 := (congrFun pg_89 354).trans rfl
theorem q_89_354 {L : List Value} {S : List Value} {Z : gZ} {I : gI} {J : gJ} : g_at 89 354 L S Z I J = g_at 89 394 L S Z I J := gq_goto e_89_354
theorem e_89_357 : g_Pg 89 357 = ga_aload 0 358 := (congrFun pg_89 357).trans rfl
theorem q_89_357 {x : Nat} {S : List Value} {Z : gZ} {I : gI} {J : gJ} : g_at 89 357 [.ref x] S Z I J = g_at 89 358 [.ref x] (.ref x :: S) Z I J := gq_aload e_89_357 rfl
theorem e_89_358 : g_Pg 89 358 = ga_aload 0 359 := (congrFun pg_89 358).trans rfl
theorem q_89_358 {x : Nat} {S : List Value} {Z : gZ} {I : gI} {J : gJ} : g_at 89 358 [.ref x] S Z I J = g_at 89 359 [.ref x] (.ref x :: S) Z I J := gq_aload e_89_358 rfl
theorem e_89_359 : g_Pg 89 359 = ga_getR 7 8 362 := (congrFun pg_89 359).trans rfl
theorem q_89_359 {L : List Value} {a : Nat} {S : List Value} {Z : gZ} {I : gI} {J : gJ} (h : (gKd Z a).1 = 7) (h1 : gRs Z a 8 = true) : g_at 89 359 L (.ref a :: S) Z I J = g_at 89 362 L (.ref (gRq Z a 8) :: S) Z I J := gq_getR e_89_359 h h1
theorem e_89_362 : g_Pg 89 362 = ga_aload 0 363 := (congrFun pg_89 362).trans rfl
theorem q_89_362 {x : Nat} {S : List Value} {Z : gZ} {I : gI} {J : gJ} : g_at 89 362 [.ref x] S Z I J = g_at 89 363 [.ref x] (.ref x :: S) Z I J := gq_aload e_89_362 rfl
theorem e_89_363 : g_Pg 89 363 = ga_getI 7 9 366 := (congrFun pg_89 363).trans rfl
theorem q_89_363 {L : List Value} {a : Nat} {S : List Value} {Z : gZ} {I : gI} {J : gJ} (h : (gKd Z a).1 = 7) : g_at 89 363 L (.ref a :: S) Z I J = g_at 89 366 L (.int (I a 9) :: S) Z I J := gq_getI e_89_363 h
theorem e_89_366 : g_Pg 89 366 = ga_iald 367 := (congrFun pg_89 366).trans rfl
theorem q_89_366 {L : List Value} {a : Nat} {i : Int32} {S : List Value} {Z : gZ} {I : gI} {J : gJ} (h : gTg8 (gKd Z a).1 a = true) (h0 : 0 ≤ i) (h1 : i.toNatClampNeg < (gKd Z a).2) : g_at 89 366 L (.int i :: .ref a :: S) Z I J = g_at 89 367 L (.int (I a i.toNatClampNeg) :: S) Z I J := gq_iald e_89_366 h h0 h1
theorem e_89_367 : g_Pg 89 367 = ga_push (.int 59) 369 := (congrFun pg_89 367).trans rfl
theorem q_89_367 {L : List Value} {S : List Value} {Z : gZ} {I : gI} {J : gJ} : g_at 89 367 L S Z I J = g_at 89 369 L (.int 59 :: S) Z I J := gq_push e_89_367
theorem e_89_369 : g_Pg 89 369 = ga_cmp (fun x y => decide (¬ x = y)) 378 372 := (congrFun pg_89 369).trans rfl
theorem q_89_369 {L : List Value} {x y : Int32} {S : List Value} {Z : gZ} {I : gI} {J : gJ} : g_at 89 369 L (.int y :: .int x :: S) Z I J = if ¬ x = y then g_at 89 378 L S Z I J else g_at 89 372 L S Z I J := gq_cmp e_89_369 rfl
theorem e_89_372 : g_Pg 89 372 = ga_push (.long (-3)) 375 := (congrFun pg_89 372).trans rfl
theorem q_89_372 {L : List Value} {S : List Value} {Z : gZ} {I : gI} {J : gJ} : g_at 89 372 L S Z I J = g_at 89 375 L (.long (-3) :: S) Z I J := gq_push e_89_372
theorem e_89_375 : g_Pg 89 375 = ga_goto 381 := (congrFun pg_89 375).trans rfl
theorem q_89_375 {L : List Value} {S : List Value} {Z : gZ} {I : gI} {J : gJ} : g_at 89 375 L S Z I J = g_at 89 381 L S Z I J := gq_goto e_89_375
theorem e_89_378 : g_Pg 89 378 = ga_push (.long (-4)) 381 := (congrFun pg_89 378).trans rfl
theorem q_89_378 {L : List Value} {S : List Value} {Z : gZ} {I : gI} {J : gJ} : g_at 89 378 L S Z I J = g_at 89 381 L (.long (-4) :: S) Z I J := gq_push e_89_378
theorem e_89_381 : g_Pg 89 381 = ga_putL 7 11 384 := (congrFun pg_89 381).trans rfl
theorem q_89_381 {L : List Value} {a : Nat} {v : Int64} {S : List Value} {Z : gZ} {I : gI} {J : gJ} (h : (gKd Z a).1 = 7) : g_at 89 381 L (.long v :: .ref a :: S) Z I J = g_at 89 384 L S Z I (va_up J a (va_up (J a) 11 v)) := gq_putL e_89_381 h
theorem e_89_384 : g_Pg 89 384 = ga_aload 0 385 := (congrFun pg_89 384).trans rfl
theorem q_89_384 {x : Nat} {S : List Value} {Z : gZ} {I : gI} {J : gJ} : g_at 89 384 [.ref x] S Z I J = g_at 89 385 [.ref x] (.ref x :: S) Z I J := gq_aload e_89_384 rfl
theorem e_89_385 : g_Pg 89 385 = ga_dup 386 := (congrFun pg_89 385).trans rfl
theorem q_89_385 {L : List Value} {x : Nat} {S : List Value} {Z : gZ} {I : gI} {J : gJ} : g_at 89 385 L (.ref x :: S) Z I J = g_at 89 386 L (.ref x :: .ref x :: S) Z I J := gq_dup e_89_385
theorem e_89_386 : g_Pg 89 386 = ga_getI 7 9 389 := (congrFun pg_89 386).trans rfl
theorem q_89_386 {L : List Value} {a : Nat} {S : List Value} {Z : gZ} {I : gI} {J : gJ} (h : (gKd Z a).1 = 7) : g_at 89 386 L (.ref a :: S) Z I J = g_at 89 389 L (.int (I a 9) :: S) Z I J := gq_getI e_89_386 h
theorem e_89_389 : g_Pg 89 389 = ga_push (.int 1) 390 := (congrFun pg_89 389).trans rfl
theorem q_89_389 {L : List Value} {S : List Value} {Z : gZ} {I : gI} {J : gJ} : g_at 89 389 L S Z I J = g_at 89 390 L (.int 1 :: S) Z I J := gq_push e_89_389
theorem e_89_390 : g_Pg 89 390 = ga_bin (fun x y => x + y) 391 := (congrFun pg_89 390).trans rfl
theorem q_89_390 {L : List Value} {x y : Int32} {S : List Value} {Z : gZ} {I : gI} {J : gJ} : g_at 89 390 L (.int y :: .int x :: S) Z I J = g_at 89 391 L (.int (x + y) :: S) Z I J := gq_bin e_89_390
theorem e_89_391 : g_Pg 89 391 = ga_putI 7 9 394 := (congrFun pg_89 391).trans rfl
theorem q_89_391 {L : List Value} {a : Nat} {v : Int32} {S : List Value} {Z : gZ} {I : gI} {J : gJ} (h : (gKd Z a).1 = 7) : g_at 89 391 L (.int v :: .ref a :: S) Z I J = g_at 89 394 L S Z (va_up I a (va_up (I a) 9 v)) J := gq_putI e_89_391 h
theorem e_89_394 : g_Pg 89 394 = ga_vret := (congrFun pg_89 394).trans rfl
theorem q_89_394 {L : List Value} {Z : gZ} {I : gI} {J : gJ} : g_at 89 394 L [] Z I J = some (none, Z, I, J) := gq_vret e_89_394
theorem e_90_0 : g_Pg 90 0 = ga_aload 0 1 := (congrFun pg_90 0).trans rfl
theorem q_90_0 {x : Nat} {S : List Value} {Z : gZ} {I : gI} {J : gJ} : g_at 90 0 [.ref x] S Z I J = g_at 90 1 [.ref x] (.ref x :: S) Z I J := gq_aload e_90_0 rfl
theorem e_90_1 : g_Pg 90 1 = ga_aload 0 2 := (congrFun pg_90 1).trans rfl
theorem q_90_1 {x : Nat} {S : List Value} {Z : gZ} {I : gI} {J : gJ} : g_at 90 1 [.ref x] S Z I J = g_at 90 2 [.ref x] (.ref x :: S) Z I J := gq_aload e_90_1 rfl
theorem e_90_2 : g_Pg 90 2 = ga_getI 7 10 5 := (congrFun pg_90 2).trans rfl
theorem q_90_2 {L : List Value} {a : Nat} {S : List Value} {Z : gZ} {I : gI} {J : gJ} (h : (gKd Z a).1 = 7) : g_at 90 2 L (.ref a :: S) Z I J = g_at 90 5 L (.int (I a 10) :: S) Z I J := gq_getI e_90_2 h
theorem e_90_5 : g_Pg 90 5 = ga_putI 7 14 8 := (congrFun pg_90 5).trans rfl
theorem q_90_5 {L : List Value} {a : Nat} {v : Int32} {S : List Value} {Z : gZ} {I : gI} {J : gJ} (h : (gKd Z a).1 = 7) : g_at 90 5 L (.int v :: .ref a :: S) Z I J = g_at 90 8 L S Z (va_up I a (va_up (I a) 14 v)) J := gq_putI e_90_5 h
theorem e_90_8 : g_Pg 90 8 = ga_push (.int 0) 9 := (congrFun pg_90 8).trans rfl
theorem q_90_8 {L : List Value} {S : List Value} {Z : gZ} {I : gI} {J : gJ} : g_at 90 8 L S Z I J = g_at 90 9 L (.int 0 :: S) Z I J := gq_push e_90_8
theorem e_90_9 : g_Pg 90 9 = ga_zret := (congrFun pg_90 9).trans rfl
theorem q_90_9 {L : List Value} {x : Int32} {Z : gZ} {I : gI} {J : gJ} (h : gB01 x = true) : g_at 90 9 L [.int x] Z I J = some (some (.int x), Z, I, J) := gq_zret e_90_9 h
theorem e_91_0 : g_Pg 91 0 = ga_aload 0 1 := (congrFun pg_91 0).trans rfl
theorem q_91_0 {l1 l2 l3 : Value} {x : Nat} {S : List Value} {Z : gZ} {I : gI} {J : gJ} : g_at 91 0 [.ref x, l1, l2, l3] S Z I J = g_at 91 1 [.ref x, l1, l2, l3] (.ref x :: S) Z I J := gq_aload e_91_0 rfl
theorem e_91_1 : g_Pg 91 1 = ga_callV 7 89 0 4 := (congrFun pg_91 1).trans rfl
theorem q_91_1 {L : List Value} {a0 : Nat} {Z : gZ} {I : gI} {J : gJ} (h : (gKd Z a0).1 = 7) : g_at 91 1 L [.ref a0] Z I J = (g_at 89 0 [.ref a0] [] Z I J).bind (fun r => g_at 91 4 L (r.1.toList ++ []) r.2.1 r.2.2.1 r.2.2.2) := gq_callV e_91_1 rfl rfl h rfl rfl rfl rfl rfl
theorem e_91_4 : g_Pg 91 4 = ga_aload 0 5 := (congrFun pg_91 4).trans rfl
theorem q_91_4 {l1 l2 l3 : Value} {x : Nat} {S : List Value} {Z : gZ} {I : gI} {J : gJ} : g_at 91 4 [.ref x, l1, l2, l3] S Z I J = g_at 91 5 [.ref x, l1, l2, l3] (.ref x :: S) Z I J := gq_aload e_91_4 rfl
theorem e_91_5 : g_Pg 91 5 = ga_getL 7 11 8 := (congrFun pg_91 5).trans rfl
theorem q_91_5 {L : List Value} {a : Nat} {S : List Value} {Z : gZ} {I : gI} {J : gJ} (h : (gKd Z a).1 = 7) : g_at 91 5 L (.ref a :: S) Z I J = g_at 91 8 L (.long (J a 11) :: S) Z I J := gq_getL e_91_5 h
theorem e_91_8 : g_Pg 91 8 = ga_push (.long (-1)) 11 := (congrFun pg_91 8).trans rfl
theorem q_91_8 {L : List Value} {S : List Value} {Z : gZ} {I : gI} {J : gJ} : g_at 91 8 L S Z I J = g_at 91 11 L (.long (-1) :: S) Z I J := gq_push e_91_8
theorem e_91_11 : g_Pg 91 11 = ga_lcmp 12 := (congrFun pg_91 11).trans rfl
theorem q_91_11 {L : List Value} {x y : Int64} {S : List Value} {Z : gZ} {I : gI} {J : gJ} : g_at 91 11 L (.long y :: .long x :: S) Z I J = g_at 91 12 L (.int (lg_cmp x y) :: S) Z I J := gq_lcmp e_91_11
theorem e_91_12 : g_Pg 91 12 = ga_if (fun x => decide (¬ x = 0)) 27 15 := (congrFun pg_91 12).trans rfl
theorem q_91_12 {L : List Value} {x : Int32} {S : List Value} {Z : gZ} {I : gI} {J : gJ} : g_at 91 12 L (.int x :: S) Z I J = if ¬ x = 0 then g_at 91 27 L S Z I J else g_at 91 15 L S Z I J := gq_if e_91_12 rfl
theorem e_91_15 : g_Pg 91 15 = ga_aload 0 16 := (congrFun pg_91 15).trans rfl
theorem q_91_15 {l1 l2 l3 : Value} {x : Nat} {S : List Value} {Z : gZ} {I : gI} {J : gJ} : g_at 91 15 [.ref x, l1, l2, l3] S Z I J = g_at 91 16 [.ref x, l1, l2, l3] (.ref x :: S) Z I J := gq_aload e_91_15 rfl
theorem e_91_16 : g_Pg 91 16 = ga_getI 7 13 19 := (congrFun pg_91 16).trans rfl
theorem q_91_16 {L : List Value} {a : Nat} {S : List Value} {Z : gZ} {I : gI} {J : gJ} (h : (gKd Z a).1 = 7) : g_at 91 16 L (.ref a :: S) Z I J = g_at 91 19 L (.int (I a 13) :: S) Z I J := gq_getI e_91_16 h
theorem e_91_19 : g_Pg 91 19 = ga_iload 2 20 := (congrFun pg_91 19).trans rfl
theorem q_91_19 {l0 l1 l3 : Value} {x : Int32} {S : List Value} {Z : gZ} {I : gI} {J : gJ} : g_at 91 19 [l0, l1, .int x, l3] S Z I J = g_at 91 20 [l0, l1, .int x, l3] (.int x :: S) Z I J := gq_iload e_91_19 rfl
theorem e_91_20 : g_Pg 91 20 = ga_iload 3 21 := (congrFun pg_91 20).trans rfl
theorem q_91_20 {l0 l1 l2 : Value} {x : Int32} {S : List Value} {Z : gZ} {I : gI} {J : gJ} : g_at 91 20 [l0, l1, l2, .int x] S Z I J = g_at 91 21 [l0, l1, l2, .int x] (.int x :: S) Z I J := gq_iload e_91_20 rfl
theorem e_91_21 : g_Pg 91 21 = ga_call 83 3 24 := (congrFun pg_91 21).trans rfl
theorem q_91_21 {L : List Value} {a0 : Int32} {a1 : Int32} {a2 : Int32} {Z : gZ} {I : gI} {J : gJ} : g_at 91 21 L [.int a0, .int a1, .int a2] Z I J = (g_at 83 0 [.int a2, .int a1, .int a0] [] Z I J).bind (fun r => g_at 91 24 L (r.1.toList ++ []) r.2.1 r.2.2.1 r.2.2.2) := gq_call e_91_21 rfl rfl rfl rfl rfl
theorem e_91_24 : g_Pg 91 24 = ga_if (fun x => decide (¬ x = 0)) 32 27 := (congrFun pg_91 24).trans rfl
theorem q_91_24 {L : List Value} {x : Int32} {S : List Value} {Z : gZ} {I : gI} {J : gJ} : g_at 91 24 L (.int x :: S) Z I J = if ¬ x = 0 then g_at 91 32 L S Z I J else g_at 91 27 L S Z I J := gq_if e_91_24 rfl
theorem e_91_27 : g_Pg 91 27 = ga_aload 0 28 := (congrFun pg_91 27).trans rfl
theorem q_91_27 {l1 l2 l3 : Value} {x : Nat} {S : List Value} {Z : gZ} {I : gI} {J : gJ} : g_at 91 27 [.ref x, l1, l2, l3] S Z I J = g_at 91 28 [.ref x, l1, l2, l3] (.ref x :: S) Z I J := gq_aload e_91_27 rfl
theorem e_91_28 : g_Pg 91 28 = ga_callV 7 90 0 31 := (congrFun pg_91 28).trans rfl
theorem q_91_28 {L : List Value} {a0 : Nat} {Z : gZ} {I : gI} {J : gJ} (h : (gKd Z a0).1 = 7) : g_at 91 28 L [.ref a0] Z I J = (g_at 90 0 [.ref a0] [] Z I J).bind (fun r => g_at 91 31 L (r.1.toList ++ []) r.2.1 r.2.2.1 r.2.2.2) := gq_callV e_91_28 rfl rfl h rfl rfl rfl rfl rfl
theorem e_91_31 : g_Pg 91 31 = ga_zret := (congrFun pg_91 31).trans rfl
theorem q_91_31 {L : List Value} {x : Int32} {Z : gZ} {I : gI} {J : gJ} (h : gB01 x = true) : g_at 91 31 L [.int x] Z I J = some (some (.int x), Z, I, J) := gq_zret e_91_31 h
theorem e_91_32 : g_Pg 91 32 = ga_aload 0 33 := (congrFun pg_91 32).trans rfl
theorem q_91_32 {l1 l2 l3 : Value} {x : Nat} {S : List Value} {Z : gZ} {I : gI} {J : gJ} : g_at 91 32 [.ref x, l1, l2, l3] S Z I J = g_at 91 33 [.ref x, l1, l2, l3] (.ref x :: S) Z I J := gq_aload e_91_32 rfl
theorem e_91_33 : g_Pg 91 33 = ga_getR 7 17 36 := (congrFun pg_91 33).trans rfl
theorem q_91_33 {L : List Value} {a : Nat} {S : List Value} {Z : gZ} {I : gI} {J : gJ} (h : (gKd Z a).1 = 7) (h1 : gRs Z a 17 = true) : g_at 91 33 L (.ref a :: S) Z I J = g_at 91 36 L (.ref (gRq Z a 17) :: S) Z I J := gq_getR e_91_33 h h1
theorem e_91_36 : g_Pg 91 36 = ga_iload 1 37 := (congrFun pg_91 36).trans rfl
theorem q_91_36 {l0 l2 l3 : Value} {x : Int32} {S : List Value} {Z : gZ} {I : gI} {J : gJ} : g_at 91 36 [l0, .int x, l2, l3] S Z I J = g_at 91 37 [l0, .int x, l2, l3] (.int x :: S) Z I J := gq_iload e_91_36 rfl
theorem e_91_37 : g_Pg 91 37 = ga_aload 0 38 := (congrFun pg_91 37).trans rfl
theorem q_91_37 {l1 l2 l3 : Value} {x : Nat} {S : List Value} {Z : gZ} {I : gI} {J : gJ} : g_at 91 37 [.ref x, l1, l2, l3] S Z I J = g_at 91 38 [.ref x, l1, l2, l3] (.ref x :: S) Z I J := gq_aload e_91_37 rfl
theorem e_91_38 : g_Pg 91 38 = ga_getI 7 13 41 := (congrFun pg_91 38).trans rfl
theorem q_91_38 {L : List Value} {a : Nat} {S : List Value} {Z : gZ} {I : gI} {J : gJ} (h : (gKd Z a).1 = 7) : g_at 91 38 L (.ref a :: S) Z I J = g_at 91 41 L (.int (I a 13) :: S) Z I J := gq_getI e_91_38 h
theorem e_91_41 : g_Pg 91 41 = ga_iast 42 := (congrFun pg_91 41).trans rfl
theorem q_91_41 {L : List Value} {a : Nat} {i : Int32} {v : Int32} {S : List Value} {Z : gZ} {I : gI} {J : gJ} (h : (gKd Z a).1 = 8) (h0 : 0 ≤ i) (h1 : i.toNatClampNeg < (gKd Z a).2) : g_at 91 41 L (.int v :: .int i :: .ref a :: S) Z I J = g_at 91 42 L S Z (va_up I a (va_up (I a) i.toNatClampNeg v)) J := gq_iast e_91_41 h h0 h1
theorem e_91_42 : g_Pg 91 42 = ga_push (.int 1) 43 := (congrFun pg_91 42).trans rfl
theorem q_91_42 {L : List Value} {S : List Value} {Z : gZ} {I : gI} {J : gJ} : g_at 91 42 L S Z I J = g_at 91 43 L (.int 1 :: S) Z I J := gq_push e_91_42
theorem e_91_43 : g_Pg 91 43 = ga_zret := (congrFun pg_91 43).trans rfl
theorem q_91_43 {L : List Value} {x : Int32} {Z : gZ} {I : gI} {J : gJ} (h : gB01 x = true) : g_at 91 43 L [.int x] Z I J = some (some (.int x), Z, I, J) := gq_zret e_91_43 h
theorem e_92_0 : g_Pg 92 0 = ga_aload 0 1 := (congrFun pg_92 0).trans rfl
theorem q_92_0 {l1 : Value} {x : Nat} {S : List Value} {Z : gZ} {I : gI} {J : gJ} : g_at 92 0 [.ref x, l1] S Z I J = g_at 92 1 [.ref x, l1] (.ref x :: S) Z I J := gq_aload e_92_0 rfl
theorem e_92_1 : g_Pg 92 1 = ga_iload 1 2 := (congrFun pg_92 1).trans rfl
theorem q_92_1 {l0 : Value} {x : Int32} {S : List Value} {Z : gZ} {I : gI} {J : gJ} : g_at 92 1 [l0, .int x] S Z I J = g_at 92 2 [l0, .int x] (.int x :: S) Z I J := gq_iload e_92_1 rfl
theorem e_92_2 : g_Pg 92 2 = ga_push (.int 0) 3 := (congrFun pg_92 2).trans rfl
theorem q_92_2 {L : List Value} {S : List Value} {Z : gZ} {I : gI} {J : gJ} : g_at 92 2 L S Z I J = g_at 92 3 L (.int 0 :: S) Z I J := gq_push e_92_2
theorem e_92_3 : g_Pg 92 3 = ga_aload 0 4 := (congrFun pg_92 3).trans rfl
theorem q_92_3 {l1 : Value} {x : Nat} {S : List Value} {Z : gZ} {I : gI} {J : gJ} : g_at 92 3 [.ref x, l1] S Z I J = g_at 92 4 [.ref x, l1] (.ref x :: S) Z I J := gq_aload e_92_3 rfl
theorem e_92_4 : g_Pg 92 4 = ga_getI 7 16 7 := (congrFun pg_92 4).trans rfl
theorem q_92_4 {L : List Value} {a : Nat} {S : List Value} {Z : gZ} {I : gI} {J : gJ} (h : (gKd Z a).1 = 7) : g_at 92 4 L (.ref a :: S) Z I J = g_at 92 7 L (.int (I a 16) :: S) Z I J := gq_getI e_92_4 h
theorem e_92_7 : g_Pg 92 7 = ga_push (.int 1) 8 := (congrFun pg_92 7).trans rfl
theorem q_92_7 {L : List Value} {S : List Value} {Z : gZ} {I : gI} {J : gJ} : g_at 92 7 L S Z I J = g_at 92 8 L (.int 1 :: S) Z I J := gq_push e_92_7
theorem e_92_8 : g_Pg 92 8 = ga_bin (fun x y => x - y) 9 := (congrFun pg_92 8).trans rfl
theorem q_92_8 {L : List Value} {x y : Int32} {S : List Value} {Z : gZ} {I : gI} {J : gJ} : g_at 92 8 L (.int y :: .int x :: S) Z I J = g_at 92 9 L (.int (x - y) :: S) Z I J := gq_bin e_92_8
theorem e_92_9 : g_Pg 92 9 = ga_callV 7 91 3 12 := (congrFun pg_92 9).trans rfl
theorem q_92_9 {L : List Value} {a0 : Int32} {a1 : Int32} {a2 : Int32} {a3 : Nat} {Z : gZ} {I : gI} {J : gJ} (h : (gKd Z a3).1 = 7) : g_at 92 9 L [.int a0, .int a1, .int a2, .ref a3] Z I J = (g_at 91 0 [.ref a3, .int a2, .int a1, .int a0] [] Z I J).bind (fun r => g_at 92 12 L (r.1.toList ++ []) r.2.1 r.2.2.1 r.2.2.2) := gq_callV e_92_9 rfl rfl h rfl rfl rfl rfl rfl
theorem e_92_12 : g_Pg 92 12 = ga_zret := (congrFun pg_92 12).trans rfl
theorem q_92_12 {L : List Value} {x : Int32} {Z : gZ} {I : gI} {J : gJ} (h : gB01 x = true) : g_at 92 12 L [.int x] Z I J = some (some (.int x), Z, I, J) := gq_zret e_92_12 h
theorem e_93_0 : g_Pg 93 0 = ga_aload 0 1 := (congrFun pg_93 0).trans rfl
theorem q_93_0 {l1 : Value} {x : Nat} {S : List Value} {Z : gZ} {I : gI} {J : gJ} : g_at 93 0 [.ref x, l1] S Z I J = g_at 93 1 [.ref x, l1] (.ref x :: S) Z I J := gq_aload e_93_0 rfl
theorem e_93_1 : g_Pg 93 1 = ga_iload 1 2 := (congrFun pg_93 1).trans rfl
theorem q_93_1 {l0 : Value} {x : Int32} {S : List Value} {Z : gZ} {I : gI} {J : gJ} : g_at 93 1 [l0, .int x] S Z I J = g_at 93 2 [l0, .int x] (.int x :: S) Z I J := gq_iload e_93_1 rfl
theorem e_93_2 : g_Pg 93 2 = ga_push (.int 1) 3 := (congrFun pg_93 2).trans rfl
theorem q_93_2 {L : List Value} {S : List Value} {Z : gZ} {I : gI} {J : gJ} : g_at 93 2 L S Z I J = g_at 93 3 L (.int 1 :: S) Z I J := gq_push e_93_2
theorem e_93_3 : g_Pg 93 3 = ga_bin (fun x y => x + y) 4 := (congrFun pg_93 3).trans rfl
theorem q_93_3 {L : List Value} {x y : Int32} {S : List Value} {Z : gZ} {I : gI} {J : gJ} : g_at 93 3 L (.int y :: .int x :: S) Z I J = g_at 93 4 L (.int (x + y) :: S) Z I J := gq_bin e_93_3
theorem e_93_4 : g_Pg 93 4 = ga_callV 7 92 1 7 := (congrFun pg_93 4).trans rfl
theorem q_93_4 {L : List Value} {a0 : Int32} {a1 : Nat} {Z : gZ} {I : gI} {J : gJ} (h : (gKd Z a1).1 = 7) : g_at 93 4 L [.int a0, .ref a1] Z I J = (g_at 92 0 [.ref a1, .int a0] [] Z I J).bind (fun r => g_at 93 7 L (r.1.toList ++ []) r.2.1 r.2.2.1 r.2.2.2) := gq_callV e_93_4 rfl rfl h rfl rfl rfl rfl rfl
theorem e_93_7 : g_Pg 93 7 = ga_if (fun x => decide (x = 0)) 20 10 := (congrFun pg_93 7).trans rfl
theorem q_93_7 {L : List Value} {x : Int32} {S : List Value} {Z : gZ} {I : gI} {J : gJ} : g_at 93 7 L (.int x :: S) Z I J = if x = 0 then g_at 93 20 L S Z I J else g_at 93 10 L S Z I J := gq_if e_93_7 rfl
theorem e_93_10 : g_Pg 93 10 = ga_aload 0 11 := (congrFun pg_93 10).trans rfl
theorem q_93_10 {l1 : Value} {x : Nat} {S : List Value} {Z : gZ} {I : gI} {J : gJ} : g_at 93 10 [.ref x, l1] S Z I J = g_at 93 11 [.ref x, l1] (.ref x :: S) Z I J := gq_aload e_93_10 rfl
theorem e_93_11 : g_Pg 93 11 = ga_iload 1 12 := (congrFun pg_93 11).trans rfl
theorem q_93_11 {l0 : Value} {x : Int32} {S : List Value} {Z : gZ} {I : gI} {J : gJ} : g_at 93 11 [l0, .int x] S Z I J = g_at 93 12 [l0, .int x] (.int x :: S) Z I J := gq_iload e_93_11 rfl
theorem e_93_12 : g_Pg 93 12 = ga_push (.int 2) 13 := (congrFun pg_93 12).trans rfl
theorem q_93_12 {L : List Value} {S : List Value} {Z : gZ} {I : gI} {J : gJ} : g_at 93 12 L S Z I J = g_at 93 13 L (.int 2 :: S) Z I J := gq_push e_93_12
theorem e_93_13 : g_Pg 93 13 = ga_bin (fun x y => x + y) 14 := (congrFun pg_93 13).trans rfl
theorem q_93_13 {L : List Value} {x y : Int32} {S : List Value} {Z : gZ} {I : gI} {J : gJ} : g_at 93 13 L (.int y :: .int x :: S) Z I J = g_at 93 14 L (.int (x + y) :: S) Z I J := gq_bin e_93_13
theorem e_93_14 : g_Pg 93 14 = ga_callV 7 92 1 17 := (congrFun pg_93 14).trans rfl
theorem q_93_14 {L : List Value} {a0 : Int32} {a1 : Nat} {Z : gZ} {I : gI} {J : gJ} (h : (gKd Z a1).1 = 7) : g_at 93 14 L [.int a0, .ref a1] Z I J = (g_at 92 0 [.ref a1, .int a0] [] Z I J).bind (fun r => g_at 93 17 L (r.1.toList ++ []) r.2.1 r.2.2.1 r.2.2.2) := gq_callV e_93_14 rfl rfl h rfl rfl rfl rfl rfl
theorem e_93_17 : g_Pg 93 17 = ga_if (fun x => decide (¬ x = 0)) 22 20 := (congrFun pg_93 17).trans rfl
theorem q_93_17 {L : List Value} {x : Int32} {S : List Value} {Z : gZ} {I : gI} {J : gJ} : g_at 93 17 L (.int x :: S) Z I J = if ¬ x = 0 then g_at 93 22 L S Z I J else g_at 93 20 L S Z I J := gq_if e_93_17 rfl
theorem e_93_20 : g_Pg 93 20 = ga_push (.int 0) 21 := (congrFun pg_93 20).trans rfl
theorem q_93_20 {L : List Value} {S : List Value} {Z : gZ} {I : gI} {J : gJ} : g_at 93 20 L S Z I J = g_at 93 21 L (.int 0 :: S) Z I J := gq_push e_93_20
theorem e_93_21 : g_Pg 93 21 = ga_zret := (congrFun pg_93 21).trans rfl
theorem q_93_21 {L : List Value} {x : Int32} {Z : gZ} {I : gI} {J : gJ} (h : gB01 x = true) : g_at 93 21 L [.int x] Z I J = some (some (.int x), Z, I, J) := gq_zret e_93_21 h
theorem e_93_22 : g_Pg 93 22 = ga_aload 0 23 := (congrFun pg_93 22).trans rfl
theorem q_93_22 {l1 : Value} {x : Nat} {S : List Value} {Z : gZ} {I : gI} {J : gJ} : g_at 93 22 [.ref x, l1] S Z I J = g_at 93 23 [.ref x, l1] (.ref x :: S) Z I J := gq_aload e_93_22 rfl
theorem e_93_23 : g_Pg 93 23 = ga_getR 7 17 26 := (congrFun pg_93 23).trans rfl
theorem q_93_23 {L : List Value} {a : Nat} {S : List Value} {Z : gZ} {I : gI} {J : gJ} (h : (gKd Z a).1 = 7) (h1 : gRs Z a 17 = true) : g_at 93 23 L (.ref a :: S) Z I J = g_at 93 26 L (.ref (gRq Z a 17) :: S) Z I J := gq_getR e_93_23 h h1
theorem e_93_26 : g_Pg 93 26 = ga_iload 1 27 := (congrFun pg_93 26).trans rfl
theorem q_93_26 {l0 : Value} {x : Int32} {S : List Value} {Z : gZ} {I : gI} {J : gJ} : g_at 93 26 [l0, .int x] S Z I J = g_at 93 27 [l0, .int x] (.int x :: S) Z I J := gq_iload e_93_26 rfl
theorem e_93_27 : g_Pg 93 27 = ga_push (.int 1) 28 := (congrFun pg_93 27).trans rfl
theorem q_93_27 {L : List Value} {S : List Value} {Z : gZ} {I : gI} {J : gJ} : g_at 93 27 L S Z I J = g_at 93 28 L (.int 1 :: S) Z I J := gq_push e_93_27
theorem e_93_28 : g_Pg 93 28 = ga_bin (fun x y => x + y) 29 := (congrFun pg_93 28).trans rfl
theorem q_93_28 {L : List Value} {x y : Int32} {S : List Value} {Z : gZ} {I : gI} {J : gJ} : g_at 93 28 L (.int y :: .int x :: S) Z I J = g_at 93 29 L (.int (x + y) :: S) Z I J := gq_bin e_93_28
theorem e_93_29 : g_Pg 93 29 = ga_iald 30 := (congrFun pg_93 29).trans rfl
theorem q_93_29 {L : List Value} {a : Nat} {i : Int32} {S : List Value} {Z : gZ} {I : gI} {J : gJ} (h : gTg8 (gKd Z a).1 a = true) (h0 : 0 ≤ i) (h1 : i.toNatClampNeg < (gKd Z a).2) : g_at 93 29 L (.int i :: .ref a :: S) Z I J = g_at 93 30 L (.int (I a i.toNatClampNeg) :: S) Z I J := gq_iald e_93_29 h h0 h1
theorem e_93_30 : g_Pg 93 30 = ga_aload 0 31 := (congrFun pg_93 30).trans rfl
theorem q_93_30 {l1 : Value} {x : Nat} {S : List Value} {Z : gZ} {I : gI} {J : gJ} : g_at 93 30 [.ref x, l1] S Z I J = g_at 93 31 [.ref x, l1] (.ref x :: S) Z I J := gq_aload e_93_30 rfl
theorem e_93_31 : g_Pg 93 31 = ga_getR 7 17 34 := (congrFun pg_93 31).trans rfl
theorem q_93_31 {L : List Value} {a : Nat} {S : List Value} {Z : gZ} {I : gI} {J : gJ} (h : (gKd Z a).1 = 7) (h1 : gRs Z a 17 = true) : g_at 93 31 L (.ref a :: S) Z I J = g_at 93 34 L (.ref (gRq Z a 17) :: S) Z I J := gq_getR e_93_31 h h1
theorem e_93_34 : g_Pg 93 34 = ga_iload 1 35 := (congrFun pg_93 34).trans rfl
theorem q_93_34 {l0 : Value} {x : Int32} {S : List Value} {Z : gZ} {I : gI} {J : gJ} : g_at 93 34 [l0, .int x] S Z I J = g_at 93 35 [l0, .int x] (.int x :: S) Z I J := gq_iload e_93_34 rfl
theorem e_93_35 : g_Pg 93 35 = ga_push (.int 2) 36 := (congrFun pg_93 35).trans rfl
theorem q_93_35 {L : List Value} {S : List Value} {Z : gZ} {I : gI} {J : gJ} : g_at 93 35 L S Z I J = g_at 93 36 L (.int 2 :: S) Z I J := gq_push e_93_35
theorem e_93_36 : g_Pg 93 36 = ga_bin (fun x y => x + y) 37 := (congrFun pg_93 36).trans rfl
theorem q_93_36 {L : List Value} {x y : Int32} {S : List Value} {Z : gZ} {I : gI} {J : gJ} : g_at 93 36 L (.int y :: .int x :: S) Z I J = g_at 93 37 L (.int (x + y) :: S) Z I J := gq_bin e_93_36
theorem e_93_37 : g_Pg 93 37 = ga_iald 38 := (congrFun pg_93 37).trans rfl
theorem q_93_37 {L : List Value} {a : Nat} {i : Int32} {S : List Value} {Z : gZ} {I : gI} {J : gJ} (h : gTg8 (gKd Z a).1 a = true) (h0 : 0 ≤ i) (h1 : i.toNatClampNeg < (gKd Z a).2) : g_at 93 37 L (.int i :: .ref a :: S) Z I J = g_at 93 38 L (.int (I a i.toNatClampNeg) :: S) Z I J := gq_iald e_93_37 h h0 h1
theorem e_93_38 : g_Pg 93 38 = ga_cmp (fun x y => decide (¬ x = y)) 46 41 := (congrFun pg_93 38).trans rfl
theorem q_93_38 {L : List Value} {x y : Int32} {S : List Value} {Z : gZ} {I : gI} {J : gJ} : g_at 93 38 L (.int y :: .int x :: S) Z I J = if ¬ x = y then g_at 93 46 L S Z I J else g_at 93 41 L S Z I J := gq_cmp e_93_38 rfl
theorem e_93_41 : g_Pg 93 41 = ga_aload 0 42 := (congrFun pg_93 41).trans rfl
theorem q_93_41 {l1 : Value} {x : Nat} {S : List Value} {Z : gZ} {I : gI} {J : gJ} : g_at 93 41 [.ref x, l1] S Z I J = g_at 93 42 [.ref x, l1] (.ref x :: S) Z I J := gq_aload e_93_41 rfl
theorem e_93_42 : g_Pg 93 42 = ga_callV 7 90 0 45 := (congrFun pg_93 42).trans rfl
theorem q_93_42 {L : List Value} {a0 : Nat} {Z : gZ} {I : gI} {J : gJ} (h : (gKd Z a0).1 = 7) : g_at 93 42 L [.ref a0] Z I J = (g_at 90 0 [.ref a0] [] Z I J).bind (fun r => g_at 93 45 L (r.1.toList ++ []) r.2.1 r.2.2.1 r.2.2.2) := gq_callV e_93_42 rfl rfl h rfl rfl rfl rfl rfl
theorem e_93_45 : g_Pg 93 45 = ga_zret := (congrFun pg_93 45).trans rfl
theorem q_93_45 {L : List Value} {x : Int32} {Z : gZ} {I : gI} {J : gJ} (h : gB01 x = true) : g_at 93 45 L [.int x] Z I J = some (some (.int x), Z, I, J) := gq_zret e_93_45 h
theorem e_93_46 : g_Pg 93 46 = ga_aload 0 47 := (congrFun pg_93 46).trans rfl
theorem q_93_46 {l1 : Value} {x : Nat} {S : List Value} {Z : gZ} {I : gI} {J : gJ} : g_at 93 46 [.ref x, l1] S Z I J = g_at 93 47 [.ref x, l1] (.ref x :: S) Z I J := gq_aload e_93_46 rfl
theorem e_93_47 : g_Pg 93 47 = ga_iload 1 48 := (congrFun pg_93 47).trans rfl
theorem q_93_47 {l0 : Value} {x : Int32} {S : List Value} {Z : gZ} {I : gI} {J : gJ} : g_at 93 47 [l0, .int x] S Z I J = g_at 93 48 [l0, .int x] (.int x :: S) Z I J := gq_iload e_93_47 rfl
theorem e_93_48 : g_Pg 93 48 = ga_push (.int 3) 49 := (congrFun pg_93 48).trans rfl
theorem q_93_48 {L : List Value} {S : List Value} {Z : gZ} {I : gI} {J : gJ} : g_at 93 48 L S Z I J = g_at 93 49 L (.int 3 :: S) Z I J := gq_push e_93_48
theorem e_93_49 : g_Pg 93 49 = ga_bin (fun x y => x + y) 50 := (congrFun pg_93 49).trans rfl
theorem q_93_49 {L : List Value} {x y : Int32} {S : List Value} {Z : gZ} {I : gI} {J : gJ} : g_at 93 49 L (.int y :: .int x :: S) Z I J = g_at 93 50 L (.int (x + y) :: S) Z I J := gq_bin e_93_49
theorem e_93_50 : g_Pg 93 50 = ga_push (.int 1) 51 := (congrFun pg_93 50).trans rfl
theorem q_93_50 {L : List Value} {S : List Value} {Z : gZ} {I : gI} {J : gJ} : g_at 93 50 L S Z I J = g_at 93 51 L (.int 1 :: S) Z I J := gq_push e_93_50
theorem e_93_51 : g_Pg 93 51 = ga_push (.int 9) 53 := (congrFun pg_93 51).trans rfl
theorem q_93_51 {L : List Value} {S : List Value} {Z : gZ} {I : gI} {J : gJ} : g_at 93 51 L S Z I J = g_at 93 53 L (.int 9 :: S) Z I J := gq_push e_93_51
theorem e_93_53 : g_Pg 93 53 = ga_callV 7 91 3 56 := (congrFun pg_93 53).trans rfl
theorem q_93_53 {L : List Value} {a0 : Int32} {a1 : Int32} {a2 : Int32} {a3 : Nat} {Z : gZ} {I : gI} {J : gJ} (h : (gKd Z a3).1 = 7) : g_at 93 53 L [.int a0, .int a1, .int a2, .ref a3] Z I J = (g_at 91 0 [.ref a3, .int a2, .int a1, .int a0] [] Z I J).bind (fun r => g_at 93 56 L (r.1.toList ++ []) r.2.1 r.2.2.1 r.2.2.2) := gq_callV e_93_53 rfl rfl h rfl rfl rfl rfl rfl
theorem e_93_56 : g_Pg 93 56 = ga_zret := (congrFun pg_93 56).trans rfl
theorem q_93_56 {L : List Value} {x : Int32} {Z : gZ} {I : gI} {J : gJ} (h : gB01 x = true) : g_at 93 56 L [.int x] Z I J = some (some (.int x), Z, I, J) := gq_zret e_93_56 h
theorem e_94_0 : g_Pg 94 0 = ga_aload 0 1 := (congrFun pg_94 0).trans rfl
theorem q_94_0 {l1 l2 l3 : Value} {x : Nat} {S : List Value} {Z : gZ} {I : gI} {J : gJ} : g_at 94 0 [.ref x, l1, l2, l3] S Z I J = g_at 94 1 [.ref x, l1, l2, l3] (.ref x :: S) Z I J := gq_aload e_94_0 rfl
theorem e_94_1 : g_Pg 94 1 = ga_callV 7 89 0 4 := (congrFun pg_94 1).trans rfl
theorem q_94_1 {L : List Value} {a0 : Nat} {Z : gZ} {I : gI} {J : gJ} (h : (gKd Z a0).1 = 7) : g_at 94 1 L [.ref a0] Z I J = (g_at 89 0 [.ref a0] [] Z I J).bind (fun r => g_at 94 4 L (r.1.toList ++ []) r.2.1 r.2.2.1 r.2.2.2) := gq_callV e_94_1 rfl rfl h rfl rfl rfl rfl rfl
theorem e_94_4 : g_Pg 94 4 = ga_aload 0 5 := (congrFun pg_94 4).trans rfl
theorem q_94_4 {l1 l2 l3 : Value} {x : Nat} {S : List Value} {Z : gZ} {I : gI} {J : gJ} : g_at 94 4 [.ref x, l1, l2, l3] S Z I J = g_at 94 5 [.ref x, l1, l2, l3] (.ref x :: S) Z I J := gq_aload e_94_4 rfl
theorem e_94_5 : g_Pg 94 5 = ga_getL 7 11 8 := (congrFun pg_94 5).trans rfl
theorem q_94_5 {L : List Value} {a : Nat} {S : List Value} {Z : gZ} {I : gI} {J : gJ} (h : (gKd Z a).1 = 7) : g_at 94 5 L (.ref a :: S) Z I J = g_at 94 8 L (.long (J a 11) :: S) Z I J := gq_getL e_94_5 h
theorem e_94_8 : g_Pg 94 8 = ga_push (.long 8740238) 11 := (congrFun pg_94 8).trans rfl
theorem q_94_8 {L : List Value} {S : List Value} {Z : gZ} {I : gI} {J : gJ} : g_at 94 8 L S Z I J = g_at 94 11 L (.long 8740238 :: S) Z I J := gq_push e_94_8
theorem e_94_11 : g_Pg 94 11 = ga_lcmp 12 := (congrFun pg_94 11).trans rfl
theorem q_94_11 {L : List Value} {x y : Int64} {S : List Value} {Z : gZ} {I : gI} {J : gJ} : g_at 94 11 L (.long y :: .long x :: S) Z I J = g_at 94 12 L (.int (lg_cmp x y) :: S) Z I J := gq_lcmp e_94_11
theorem e_94_12 : g_Pg 94 12 = ga_if (fun x => decide (¬ x = 0)) 19 15 := (congrFun pg_94 12).trans rfl
theorem q_94_12 {L : List Value} {x : Int32} {S : List Value} {Z : gZ} {I : gI} {J : gJ} : g_at 94 12 L (.int x :: S) Z I J = if ¬ x = 0 then g_at 94 19 L S Z I J else g_at 94 15 L S Z I J := gq_if e_94_12 rfl
theorem e_94_15 : g_Pg 94 15 = ga_push (.int 0) 16 := (congrFun pg_94 15).trans rfl
theorem q_94_15 {L : List Value} {S : List Value} {Z : gZ} {I : gI} {J : gJ} : g_at 94 15 L S Z I J = g_at 94 16 L (.int 0 :: S) Z I J := gq_push e_94_15
theorem e_94_16 : g_Pg 94 16 = ga_goto 80 := (congrFun pg_94 16).trans rfl
theorem q_94_16 {L : List Value} {S : List Value} {Z : gZ} {I : gI} {J : gJ} : g_at 94 16 L S Z I J = g_at 94 80 L S Z I J := gq_goto e_94_16
theorem e_94_19 : g_Pg 94 19 = ga_aload 0 20 := (congrFun pg_94 19).trans rfl
theorem q_94_19 {l1 l2 l3 : Value} {x : Nat} {S : List Value} {Z : gZ} {I : gI} {J : gJ} : g_at 94 19 [.ref x, l1, l2, l3] S Z I J = g_at 94 20 [.ref x, l1, l2, l3] (.ref x :: S) Z I J := gq_aload e_94_19 rfl
theorem e_94_20 : g_Pg 94 20 = ga_getL 7 11 23 := (congrFun pg_94 20).trans rfl
theorem q_94_20 {L : List Value} {a : Nat} {S : List Value} {Z : gZ} {I : gI} {J : gJ} (h : (gKd Z a).1 = 7) : g_at 94 20 L (.ref a :: S) Z I J = g_at 94 23 L (.long (J a 11) :: S) Z I J := gq_getL e_94_20 h
theorem e_94_23 : g_Pg 94 23 = ga_push (.long 82410) 26 := (congrFun pg_94 23).trans rfl
theorem q_94_23 {L : List Value} {S : List Value} {Z : gZ} {I : gI} {J : gJ} : g_at 94 23 L S Z I J = g_at 94 26 L (.long 82410 :: S) Z I J := gq_push e_94_23
theorem e_94_26 : g_Pg 94 26 = ga_lcmp 27 := (congrFun pg_94 26).trans rfl
theorem q_94_26 {L : List Value} {x y : Int64} {S : List Value} {Z : gZ} {I : gI} {J : gJ} : g_at 94 26 L (.long y :: .long x :: S) Z I J = g_at 94 27 L (.int (lg_cmp x y) :: S) Z I J := gq_lcmp e_94_26
theorem e_94_27 : g_Pg 94 27 = ga_if (fun x => decide (¬ x = 0)) 34 30 := (congrFun pg_94 27).trans rfl
theorem q_94_27 {L : List Value} {x : Int32} {S : List Value} {Z : gZ} {I : gI} {J : gJ} : g_at 94 27 L (.int x :: S) Z I J = if ¬ x = 0 then g_at 94 34 L S Z I J else g_at 94 30 L S Z I J := gq_if e_94_27 rfl
theorem e_94_30 : g_Pg 94 30 = ga_push (.int 1) 31 := (congrFun pg_94 30).trans rfl
theorem q_94_30 {L : List Value} {S : List Value} {Z : gZ} {I : gI} {J : gJ} : g_at 94 30 L S Z I J = g_at 94 31 L (.int 1 :: S) Z I J := gq_push e_94_30
theorem e_94_31 : g_Pg 94 31 = ga_goto 80 := (congrFun pg_94 31).trans rfl
theorem q_94_31 {L : List Value} {S : List Value} {Z : gZ} {I : gI} {J : gJ} : g_at 94 31 L S Z I J = g_at 94 80 L S Z I J := gq_goto e_94_31
theorem e_94_34 : g_Pg 94 34 = ga_aload 0 35 := (congrFun pg_94 34).trans rfl
theorem q_94_34 {l1 l2 l3 : Value} {x : Nat} {S : List Value} {Z : gZ} {I : gI} {J : gJ} : g_at 94 34 [.ref x, l1, l2, l3] S Z I J = g_at 94 35 [.ref x, l1, l2, l3] (.ref x :: S) Z I J := gq_aload e_94_34 rfl
theorem e_94_35 : g_Pg 94 35 = ga_getL 7 11 38 := (congrFun pg_94 35).trans rfl
theorem q_94_35 {L : List Value} {a : Nat} {S : List Value} {Z : gZ} {I : gI} {J : gJ} (h : (gKd Z a).1 = 7) : g_at 94 35 L (.ref a :: S) Z I J = g_at 94 38 L (.long (J a 11) :: S) Z I J := gq_getL e_94_35 h
theorem e_94_38 : g_Pg 94 38 = ga_push (.long 279109042) 41 := (congrFun pg_94 38).trans rfl
theorem q_94_38 {L : List Value} {S : List Value} {Z : gZ} {I : gI} {J : gJ} : g_at 94 38 L S Z I J = g_at 94 41 L (.long 279109042 :: S) Z I J := gq_push e_94_38
theorem e_94_41 : g_Pg 94 41 = ga_lcmp 42 := (congrFun pg_94 41).trans rfl
theorem q_94_41 {L : List Value} {x y : Int64} {S : List Value} {Z : gZ} {I : gI} {J : gJ} : g_at 94 41 L (.long y :: .long x :: S) Z I J = g_at 94 42 L (.int (lg_cmp x y) :: S) Z I J := gq_lcmp e_94_41
theorem e_94_42 : g_Pg 94 42 = ga_if (fun x => decide (¬ x = 0)) 49 45 := (congrFun pg_94 42).trans rfl
theorem q_94_42 {L : List Value} {x : Int32} {S : List Value} {Z : gZ} {I : gI} {J : gJ} : g_at 94 42 L (.int x :: S) Z I J = if ¬ x = 0 then g_at 94 49 L S Z I J else g_at 94 45 L S Z I J := gq_if e_94_42 rfl
theorem e_94_45 : g_Pg 94 45 = ga_push (.int 2) 46 := (congrFun pg_94 45).trans rfl
theorem q_94_45 {L : List Value} {S : List Value} {Z : gZ} {I : gI} {J : gJ} : g_at 94 45 L S Z I J = g_at 94 46 L (.int 2 :: S) Z I J := gq_push e_94_45
theorem e_94_46 : g_Pg 94 46 = ga_goto 80 := (congrFun pg_94 46).trans rfl
theorem q_94_46 {L : List Value} {S : List Value} {Z : gZ} {I : gI} {J : gJ} : g_at 94 46 L S Z I J = g_at 94 80 L S Z I J := gq_goto e_94_46
theorem e_94_49 : g_Pg 94 49 = ga_aload 0 50 := (congrFun pg_94 49).trans rfl
theorem q_94_49 {l1 l2 l3 : Value} {x : Nat} {S : List Value} {Z : gZ} {I : gI} {J : gJ} : g_at 94 49 [.ref x, l1, l2, l3] S Z I J = g_at 94 50 [.ref x, l1, l2, l3] (.ref x :: S) Z I J := gq_aload e_94_49 rfl
theorem e_94_50 : g_Pg 94 50 = ga_getL 7 11 53 := (congrFun pg_94 50).trans rfl
theorem q_94_50 {L : List Value} {a : Nat} {S : List Value} {Z : gZ} {I : gI} {J : gJ} (h : (gKd Z a).1 = 7) : g_at 94 50 L (.ref a :: S) Z I J = g_at 94 53 L (.long (J a 11) :: S) Z I J := gq_getL e_94_50 h
theorem e_94_53 : g_Pg 94 53 = ga_push (.long 1776129921) 56 := (congrFun pg_94 53).trans rfl
theorem q_94_53 {L : List Value} {S : List Value} {Z : gZ} {I : gI} {J : gJ} : g_at 94 53 L S Z I J = g_at 94 56 L (.long 1776129921 :: S) Z I J := gq_push e_94_53
theorem e_94_56 : g_Pg 94 56 = ga_lcmp 57 := (congrFun pg_94 56).trans rfl
theorem q_94_56 {L : List Value} {x y : Int64} {S : List Value} {Z : gZ} {I : gI} {J : gJ} : g_at 94 56 L (.long y :: .long x :: S) Z I J = g_at 94 57 L (.int (lg_cmp x y) :: S) Z I J := gq_lcmp e_94_56
theorem e_94_57 : g_Pg 94 57 = ga_if (fun x => decide (¬ x = 0)) 64 60 := (congrFun pg_94 57).trans rfl
theorem q_94_57 {L : List Value} {x : Int32} {S : List Value} {Z : gZ} {I : gI} {J : gJ} : g_at 94 57 L (.int x :: S) Z I J = if ¬ x = 0 then g_at 94 64 L S Z I J else g_at 94 60 L S Z I J := gq_if e_94_57 rfl
theorem e_94_60 : g_Pg 94 60 = ga_push (.int 3) 61 := (congrFun pg_94 60).trans rfl
theorem q_94_60 {L : List Value} {S : List Value} {Z : gZ} {I : gI} {J : gJ} : g_at 94 60 L S Z I J = g_at 94 61 L (.int 3 :: S) Z I J := gq_push e_94_60
theorem e_94_61 : g_Pg 94 61 = ga_goto 80 := (congrFun pg_94 61).trans rfl
theorem q_94_61 {L : List Value} {S : List Value} {Z : gZ} {I : gI} {J : gJ} : g_at 94 61 L S Z I J = g_at 94 80 L S Z I J := gq_goto e_94_61
theorem e_94_64 : g_Pg 94 64 = ga_aload 0 65 := (congrFun pg_94 64).trans rfl
theorem q_94_64 {l1 l2 l3 : Value} {x : Nat} {S : List Value} {Z : gZ} {I : gI} {J : gJ} : g_at 94 64 [.ref x, l1, l2, l3] S Z I J = g_at 94 65 [.ref x, l1, l2, l3] (.ref x :: S) Z I J := gq_aload e_94_64 rfl
theorem e_94_65 : g_Pg 94 65 = ga_getL 7 11 68 := (congrFun pg_94 65).trans rfl
theorem q_94_65 {L : List Value} {a : Nat} {S : List Value} {Z : gZ} {I : gI} {J : gJ} (h : (gKd Z a).1 = 7) : g_at 94 65 L (.ref a :: S) Z I J = g_at 94 68 L (.long (J a 11) :: S) Z I J := gq_getL e_94_65 h
theorem e_94_68 : g_Pg 94 68 = ga_push (.long 1834209) 71 := (congrFun pg_94 68).trans rfl
theorem q_94_68 {L : List Value} {S : List Value} {Z : gZ} {I : gI} {J : gJ} : g_at 94 68 L S Z I J = g_at 94 71 L (.long 1834209 :: S) Z I J := gq_push e_94_68
theorem e_94_71 : g_Pg 94 71 = ga_lcmp 72 := (congrFun pg_94 71).trans rfl
theorem q_94_71 {L : List Value} {x y : Int64} {S : List Value} {Z : gZ} {I : gI} {J : gJ} : g_at 94 71 L (.long y :: .long x :: S) Z I J = g_at 94 72 L (.int (lg_cmp x y) :: S) Z I J := gq_lcmp e_94_71
theorem e_94_72 : g_Pg 94 72 = ga_if (fun x => decide (¬ x = 0)) 79 75 := (congrFun pg_94 72).trans rfl
theorem q_94_72 {L : List Value} {x : Int32} {S : List Value} {Z : gZ} {I : gI} {J : gJ} : g_at 94 72 L (.int x :: S) Z I J = if ¬ x = 0 then g_at 94 79 L S Z I J else g_at 94 75 L S Z I J := gq_if e_94_72 rfl
theorem e_94_75 : g_Pg 94 75 = ga_push (.int 4) 76 := (congrFun pg_94 75).trans rfl
theorem q_94_75 {L : List Value} {S : List Value} {Z : gZ} {I : gI} {J : gJ} : g_at 94 75 L S Z I J = g_at 94 76 L (.int 4 :: S) Z I J := gq_push e_94_75
theorem e_94_76 : g_Pg 94 76 = ga_goto 80 := (congrFun pg_94 76).trans rfl
theorem q_94_76 {L : List Value} {S : List Value} {Z : gZ} {I : gI} {J : gJ} : g_at 94 76 L S Z I J = g_at 94 80 L S Z I J := gq_goto e_94_76
theorem e_94_79 : g_Pg 94 79 = ga_push (.int (-1)) 80 := (congrFun pg_94 79).trans rfl
theorem q_94_79 {L : List Value} {S : List Value} {Z : gZ} {I : gI} {J : gJ} : g_at 94 79 L S Z I J = g_at 94 80 L (.int (-1) :: S) Z I J := gq_push e_94_79
theorem e_94_80 : g_Pg 94 80 = ga_istore 2 81 := (congrFun pg_94 80).trans rfl
theorem q_94_80 {l0 l1 l2 l3 : Value} {x : Int32} {S : List Value} {Z : gZ} {I : gI} {J : gJ} (h : gN1 l1 = true) : g_at 94 80 [l0, l1, l2, l3] (.int x :: S) Z I J = g_at 94 81 [l0, l1, .int x, l3] S Z I J := gq_istore e_94_80 h rfl rfl
theorem e_94_81 : g_Pg 94 81 = ga_aload 0 82 := (congrFun pg_94 81).trans rfl
theorem q_94_81 {l1 l2 l3 : Value} {x : Nat} {S : List Value} {Z : gZ} {I : gI} {J : gJ} : g_at 94 81 [.ref x, l1, l2, l3] S Z I J = g_at 94 82 [.ref x, l1, l2, l3] (.ref x :: S) Z I J := gq_aload e_94_81 rfl
theorem e_94_82 : g_Pg 94 82 = ga_getL 7 11 85 := (congrFun pg_94 82).trans rfl
theorem q_94_82 {L : List Value} {a : Nat} {S : List Value} {Z : gZ} {I : gI} {J : gJ} (h : (gKd Z a).1 = 7) : g_at 94 82 L (.ref a :: S) Z I J = g_at 94 85 L (.long (J a 11) :: S) Z I J := gq_getL e_94_82 h
theorem e_94_85 : g_Pg 94 85 = ga_push (.long 4786) 88 := (congrFun pg_94 85).trans rfl
theorem q_94_85 {L : List Value} {S : List Value} {Z : gZ} {I : gI} {J : gJ} : g_at 94 85 L S Z I J = g_at 94 88 L (.long 4786 :: S) Z I J := gq_push e_94_85
theorem e_94_88 : g_Pg 94 88 = ga_lcmp 89 := (congrFun pg_94 88).trans rfl
theorem q_94_88 {L : List Value} {x y : Int64} {S : List Value} {Z : gZ} {I : gI} {J : gJ} : g_at 94 88 L (.long y :: .long x :: S) Z I J = g_at 94 89 L (.int (lg_cmp x y) :: S) Z I J := gq_lcmp e_94_88
theorem e_94_89 : g_Pg 94 89 = ga_if (fun x => decide (¬ x = 0)) 96 92 := (congrFun pg_94 89).trans rfl
theorem q_94_89 {L : List Value} {x : Int32} {S : List Value} {Z : gZ} {I : gI} {J : gJ} : g_at 94 89 L (.int x :: S) Z I J = if ¬ x = 0 then g_at 94 96 L S Z I J else g_at 94 92 L S Z I J := gq_if e_94_89 rfl
theorem e_94_92 : g_Pg 94 92 = ga_push (.int 5) 93 := (congrFun pg_94 92).trans rfl
theorem q_94_92 {L : List Value} {S : List Value} {Z : gZ} {I : gI} {J : gJ} : g_at 94 92 L S Z I J = g_at 94 93 L (.int 5 :: S) Z I J := gq_push e_94_92
theorem e_94_93 : g_Pg 94 93 = ga_goto 161 := (congrFun pg_94 93).trans rfl
theorem q_94_93 {L : List Value} {S : List Value} {Z : gZ} {I : gI} {J : gJ} : g_at 94 93 L S Z I J = g_at 94 161 L S Z I J := gq_goto e_94_93
theorem e_94_96 : g_Pg 94 96 = ga_aload 0 97 := (congrFun pg_94 96).trans rfl
theorem q_94_96 {l1 l2 l3 : Value} {x : Nat} {S : List Value} {Z : gZ} {I : gI} {J : gJ} : g_at 94 96 [.ref x, l1, l2, l3] S Z I J = g_at 94 97 [.ref x, l1, l2, l3] (.ref x :: S) Z I J := gq_aload e_94_96 rfl
theorem e_94_97 : g_Pg 94 97 = ga_getL 7 11 100 := (congrFun pg_94 97).trans rfl
theorem q_94_97 {L : List Value} {a : Nat} {S : List Value} {Z : gZ} {I : gI} {J : gJ} (h : (gKd Z a).1 = 7) : g_at 94 97 L (.ref a :: S) Z I J = g_at 94 100 L (.long (J a 11) :: S) Z I J := gq_getL e_94_97 h
theorem e_94_100 : g_Pg 94 100 = ga_push (.long 3554408) 103 := (congrFun pg_94 100).trans rfl
theorem q_94_100 {L : List Value} {S : List Value} {Z : gZ} {I : gI} {J : gJ} : g_at 94 100 L S Z I J = g_at 94 103 L (.long 3554408 :: S) Z I J := gq_push e_94_100
theorem e_94_103 : g_Pg 94 103 = ga_lcmp 104 := (congrFun pg_94 103).trans rfl
theorem q_94_103 {L : List Value} {x y : Int64} {S : List Value} {Z : gZ} {I : gI} {J : gJ} : g_at 94 103 L (.long y :: .long x :: S) Z I J = g_at 94 104 L (.int (lg_cmp x y) :: S) Z I J := gq_lcmp e_94_103
theorem e_94_104 : g_Pg 94 104 = ga_if (fun x => decide (¬ x = 0)) 112 107 := (congrFun pg_94 104).trans rfl
theorem q_94_104 {L : List Value} {x : Int32} {S : List Value} {Z : gZ} {I : gI} {J : gJ} : g_at 94 104 L (.int x :: S) Z I J = if ¬ x = 0 then g_at 94 112 L S Z I J else g_at 94 107 L S Z I J := gq_if e_94_104 rfl
theorem e_94_107 : g_Pg 94 107 = ga_push (.int 6) 109 := (congrFun pg_94 107).trans rfl
theorem q_94_107 {L : List Value} {S : List Value} {Z : gZ} {I : gI} {J : gJ} : g_at 94 107 L S Z I J = g_at 94 109 L (.int 6 :: S) Z I J := gq_push e_94_107
theorem e_94_109 : g_Pg 94 109 = ga_goto 161 := (congrFun pg_94 109).trans rfl
theorem q_94_109 {L : List Value} {S : List Value} {Z : gZ} {I : gI} {J : gJ} : g_at 94 109 L S Z I J = g_at 94 161 L S Z I J := gq_goto e_94_109
theorem e_94_112 : g_Pg 94 112 = ga_aload 0 113 := (congrFun pg_94 112).trans rfl
theorem q_94_112 {l1 l2 l3 : Value} {x : Nat} {S : List Value} {Z : gZ} {I : gI} {J : gJ} : g_at 94 112 [.ref x, l1, l2, l3] S Z I J = g_at 94 113 [.ref x, l1, l2, l3] (.ref x :: S) Z I J := gq_aload e_94_112 rfl
theorem e_94_113 : g_Pg 94 113 = ga_getL 7 11 116 := (congrFun pg_94 113).trans rfl
theorem q_94_113 {L : List Value} {a : Nat} {S : List Value} {Z : gZ} {I : gI} {J : gJ} (h : (gKd Z a).1 = 7) : g_at 94 113 L (.ref a :: S) Z I J = g_at 94 116 L (.long (J a 11) :: S) Z I J := gq_getL e_94_113 h
theorem e_94_116 : g_Pg 94 116 = ga_push (.long 36250510761) 119 := (congrFun pg_94 116).trans rfl
theorem q_94_116 {L : List Value} {S : List Value} {Z : gZ} {I : gI} {J : gJ} : g_at 94 116 L S Z I J = g_at 94 119 L (.long 36250510761 :: S) Z I J := gq_push e_94_116
theorem e_94_119 : g_Pg 94 119 = ga_lcmp 120 := (congrFun pg_94 119).trans rfl
theorem q_94_119 {L : List Value} {x y : Int64} {S : List Value} {Z : gZ} {I : gI} {J : gJ} : g_at 94 119 L (.long y :: .long x :: S) Z I J = g_at 94 120 L (.int (lg_cmp x y) :: S) Z I J := gq_lcmp e_94_119
theorem e_94_120 : g_Pg 94 120 = ga_if (fun x => decide (¬ x = 0)) 128 123 := (congrFun pg_94 120).trans rfl
theorem q_94_120 {L : List Value} {x : Int32} {S : List Value} {Z : gZ} {I : gI} {J : gJ} : g_at 94 120 L (.int x :: S) Z I J = if ¬ x = 0 then g_at 94 128 L S Z I J else g_at 94 123 L S Z I J := gq_if e_94_120 rfl
theorem e_94_123 : g_Pg 94 123 = ga_push (.int 7) 125 := (congrFun pg_94 123).trans rfl
theorem q_94_123 {L : List Value} {S : List Value} {Z : gZ} {I : gI} {J : gJ} : g_at 94 123 L S Z I J = g_at 94 125 L (.int 7 :: S) Z I J := gq_push e_94_123
theorem e_94_125 : g_Pg 94 125 = ga_goto 161 := (congrFun pg_94 125).trans rfl
theorem q_94_125 {L : List Value} {S : List Value} {Z : gZ} {I : gI} {J : gJ} : g_at 94 125 L S Z I J = g_at 94 161 L S Z I J := gq_goto e_94_125
theorem e_94_128 : g_Pg 94 128 = ga_aload 0 129 := (congrFun pg_94 128).trans rfl
theorem q_94_128 {l1 l2 l3 : Value} {x : Nat} {S : List Value} {Z : gZ} {I : gI} {J : gJ} : g_at 94 128 [.ref x, l1, l2, l3] S Z I J = g_at 94 129 [.ref x, l1, l2, l3] (.ref x :: S) Z I J := gq_aload e_94_128 rfl
theorem e_94_129 : g_Pg 94 129 = ga_getL 7 11 132 := (congrFun pg_94 129).trans rfl
theorem q_94_129 {L : List Value} {a : Nat} {S : List Value} {Z : gZ} {I : gI} {J : gJ} (h : (gKd Z a).1 = 7) : g_at 94 129 L (.ref a :: S) Z I J = g_at 94 132 L (.long (J a 11) :: S) Z I J := gq_getL e_94_129 h
theorem e_94_132 : g_Pg 94 132 = ga_push (.long 4351177) 135 := (congrFun pg_94 132).trans rfl
theorem q_94_132 {L : List Value} {S : List Value} {Z : gZ} {I : gI} {J : gJ} : g_at 94 132 L S Z I J = g_at 94 135 L (.long 4351177 :: S) Z I J := gq_push e_94_132
theorem e_94_135 : g_Pg 94 135 = ga_lcmp 136 := (congrFun pg_94 135).trans rfl
theorem q_94_135 {L : List Value} {x y : Int64} {S : List Value} {Z : gZ} {I : gI} {J : gJ} : g_at 94 135 L (.long y :: .long x :: S) Z I J = g_at 94 136 L (.int (lg_cmp x y) :: S) Z I J := gq_lcmp e_94_135
theorem e_94_136 : g_Pg 94 136 = ga_if (fun x => decide (¬ x = 0)) 144 139 := (congrFun pg_94 136).trans rfl
theorem q_94_136 {L : List Value} {x : Int32} {S : List Value} {Z : gZ} {I : gI} {J : gJ} : g_at 94 136 L (.int x :: S) Z I J = if ¬ x = 0 then g_at 94 144 L S Z I J else g_at 94 139 L S Z I J := gq_if e_94_136 rfl
theorem e_94_139 : g_Pg 94 139 = ga_push (.int 8) 141 := (congrFun pg_94 139).trans rfl
theorem q_94_139 {L : List Value} {S : List Value} {Z : gZ} {I : gI} {J : gJ} : g_at 94 139 L S Z I J = g_at 94 141 L (.int 8 :: S) Z I J := gq_push e_94_139
theorem e_94_141 : g_Pg 94 141 = ga_goto 161 := (congrFun pg_94 141).trans rfl
theorem q_94_141 {L : List Value} {S : List Value} {Z : gZ} {I : gI} {J : gJ} : g_at 94 141 L S Z I J = g_at 94 161 L S Z I J := gq_goto e_94_141
theorem e_94_144 : g_Pg 94 144 = ga_aload 0 145 := (congrFun pg_94 144).trans rfl
theorem q_94_144 {l1 l2 l3 : Value} {x : Nat} {S : List Value} {Z : gZ} {I : gI} {J : gJ} : g_at 94 144 [.ref x, l1, l2, l3] S Z I J = g_at 94 145 [.ref x, l1, l2, l3] (.ref x :: S) Z I J := gq_aload e_94_144 rfl
theorem e_94_145 : g_Pg 94 145 = ga_getL 7 11 148 := (congrFun pg_94 145).trans rfl
theorem q_94_145 {L : List Value} {a : Nat} {S : List Value} {Z : gZ} {I : gI} {J : gJ} (h : (gKd Z a).1 = 7) : g_at 94 145 L (.ref a :: S) Z I J = g_at 94 148 L (.long (J a 11) :: S) Z I J := gq_getL e_94_145 h
theorem e_94_148 : g_Pg 94 148 = ga_push (.long 778955) 151 := (congrFun pg_94 148).trans rfl
theorem q_94_148 {L : List Value} {S : List Value} {Z : gZ} {I : gI} {J : gJ} : g_at 94 148 L S Z I J = g_at 94 151 L (.long 778955 :: S) Z I J := gq_push e_94_148
theorem e_94_151 : g_Pg 94 151 = ga_lcmp 152 := (congrFun pg_94 151).trans rfl
theorem q_94_151 {L : List Value} {x y : Int64} {S : List Value} {Z : gZ} {I : gI} {J : gJ} : g_at 94 151 L (.long y :: .long x :: S) Z I J = g_at 94 152 L (.int (lg_cmp x y) :: S) Z I J := gq_lcmp e_94_151
theorem e_94_152 : g_Pg 94 152 = ga_if (fun x => decide (¬ x = 0)) 160 155 := (congrFun pg_94 152).trans rfl
theorem q_94_152 {L : List Value} {x : Int32} {S : List Value} {Z : gZ} {I : gI} {J : gJ} : g_at 94 152 L (.int x :: S) Z I J = if ¬ x = 0 then g_at 94 160 L S Z I J else g_at 94 155 L S Z I J := gq_if e_94_152 rfl
theorem e_94_155 : g_Pg 94 155 = ga_push (.int 9) 157 := (congrFun pg_94 155).trans rfl
theorem q_94_155 {L : List Value} {S : List Value} {Z : gZ} {I : gI} {J : gJ} : g_at 94 155 L S Z I J = g_at 94 157 L (.int 9 :: S) Z I J := gq_push e_94_155
theorem e_94_157 : g_Pg 94 157 = ga_goto 161 := (congrFun pg_94 157).trans rfl
theorem q_94_157 {L : List Value} {S : List Value} {Z : gZ} {I : gI} {J : gJ} : g_at 94 157 L S Z I J = g_at 94 161 L S Z I J := gq_goto e_94_157
theorem e_94_160 : g_Pg 94 160 = ga_push (.int (-1)) 161 := (congrFun pg_94 160).trans rfl
theorem q_94_160 {L : List Value} {S : List Value} {Z : gZ} {I : gI} {J : gJ} : g_at 94 160 L S Z I J = g_at 94 161 L (.int (-1) :: S) Z I J := gq_push e_94_160
theorem e_94_161 : g_Pg 94 161 = ga_istore 3 162 := (congrFun pg_94 161).trans rfl
theorem q_94_161 {l0 l1 l2 l3 : Value} {x : Int32} {S : List Value} {Z : gZ} {I : gI} {J : gJ} (h : gN1 l2 = true) : g_at 94 161 [l0, l1, l2, l3] (.int x :: S) Z I J = g_at 94 162 [l0, l1, l2, .int x] S Z I J := gq_istore e_94_161 h rfl rfl
theorem e_94_162 : g_Pg 94 162 = ga_aload 0 163 := (congrFun pg_94 162).trans rfl
theorem q_94_162 {l1 l2 l3 : Value} {x : Nat} {S : List Value} {Z : gZ} {I : gI} {J : gJ} : g_at 94 162 [.ref x, l1, l2, l3] S Z I J = g_at 94 163 [.ref x, l1, l2, l3] (.ref x :: S) Z I J := gq_aload e_94_162 rfl
theorem e_94_163 : g_Pg 94 163 = ga_getR 7 17 166 := (congrFun pg_94 163).trans rfl
theorem q_94_163 {L : List Value} {a : Nat} {S : List Value} {Z : gZ} {I : gI} {J : gJ} (h : (gKd Z a).1 = 7) (h1 : gRs Z a 17 = true) : g_at 94 163 L (.ref a :: S) Z I J = g_at 94 166 L (.ref (gRq Z a 17) :: S) Z I J := gq_getR e_94_163 h h1
theorem e_94_166 : g_Pg 94 166 = ga_iload 1 167 := (congrFun pg_94 166).trans rfl
theorem q_94_166 {l0 l2 l3 : Value} {x : Int32} {S : List Value} {Z : gZ} {I : gI} {J : gJ} : g_at 94 166 [l0, .int x, l2, l3] S Z I J = g_at 94 167 [l0, .int x, l2, l3] (.int x :: S) Z I J := gq_iload e_94_166 rfl
theorem e_94_167 : g_Pg 94 167 = ga_iload 2 168 := (congrFun pg_94 167).trans rfl
theorem q_94_167 {l0 l1 l3 : Value} {x : Int32} {S : List Value} {Z : gZ} {I : gI} {J : gJ} : g_at 94 167 [l0, l1, .int x, l3] S Z I J = g_at 94 168 [l0, l1, .int x, l3] (.int x :: S) Z I J := gq_iload e_94_167 rfl
theorem e_94_168 : g_Pg 94 168 = ga_push (.int (-1)) 169 := (congrFun pg_94 168).trans rfl
theorem q_94_168 {L : List Value} {S : List Value} {Z : gZ} {I : gI} {J : gJ} : g_at 94 168 L S Z I J = g_at 94 169 L (.int (-1) :: S) Z I J := gq_push e_94_168
theorem e_94_169 : g_Pg 94 169 = ga_cmp (fun x y => decide (¬ x = y)) 176 172 := (congrFun pg_94 169).trans rfl
theorem q_94_169 {L : List Value} {x y : Int32} {S : List Value} {Z : gZ} {I : gI} {J : gJ} : g_at 94 169 L (.int y :: .int x :: S) Z I J = if ¬ x = y then g_at 94 176 L S Z I J else g_at 94 172 L S Z I J := gq_cmp e_94_169 rfl
theorem e_94_172 : g_Pg 94 172 = ga_iload 3 173 := (congrFun pg_94 172).trans rfl
theorem q_94_172 {l0 l1 l2 : Value} {x : Int32} {S : List Value} {Z : gZ} {I : gI} {J : gJ} : g_at 94 172 [l0, l1, l2, .int x] S Z I J = g_at 94 173 [l0, l1, l2, .int x] (.int x :: S) Z I J := gq_iload e_94_172 rfl
theorem e_94_173 : g_Pg 94 173 = ga_goto 177 := (congrFun pg_94 173).trans rfl
theorem q_94_173 {L : List Value} {S : List Value} {Z : gZ} {I : gI} {J : gJ} : g_at 94 173 L S Z I J = g_at 94 177 L S Z I J := gq_goto e_94_173
theorem e_94_176 : g_Pg 94 176 = ga_iload 2 177 := (congrFun pg_94 176).trans rfl
theorem q_94_176 {l0 l1 l3 : Value} {x : Int32} {S : List Value} {Z : gZ} {I : gI} {J : gJ} : g_at 94 176 [l0, l1, .int x, l3] S Z I J = g_at 94 177 [l0, l1, .int x, l3] (.int x :: S) Z I J := gq_iload e_94_176 rfl
theorem e_94_177 : g_Pg 94 177 = ga_iast 178 := (congrFun pg_94 177).trans rfl
theorem q_94_177 {L : List Value} {a : Nat} {i : Int32} {v : Int32} {S : List Value} {Z : gZ} {I : gI} {J : gJ} (h : (gKd Z a).1 = 8) (h0 : 0 ≤ i) (h1 : i.toNatClampNeg < (gKd Z a).2) : g_at 94 177 L (.int v :: .int i :: .ref a :: S) Z I J = g_at 94 178 L S Z (va_up I a (va_up (I a) i.toNatClampNeg v)) J := gq_iast e_94_177 h h0 h1
theorem e_94_178 : g_Pg 94 178 = ga_aload 0 179 := (congrFun pg_94 178).trans rfl
theorem q_94_178 {l1 l2 l3 : Value} {x : Nat} {S : List Value} {Z : gZ} {I : gI} {J : gJ} : g_at 94 178 [.ref x, l1, l2, l3] S Z I J = g_at 94 179 [.ref x, l1, l2, l3] (.ref x :: S) Z I J := gq_aload e_94_178 rfl
theorem e_94_179 : g_Pg 94 179 = ga_getR 7 17 182 := (congrFun pg_94 179).trans rfl
theorem q_94_179 {L : List Value} {a : Nat} {S : List Value} {Z : gZ} {I : gI} {J : gJ} (h : (gKd Z a).1 = 7) (h1 : gRs Z a 17 = true) : g_at 94 179 L (.ref a :: S) Z I J = g_at 94 182 L (.ref (gRq Z a 17) :: S) Z I J := gq_getR e_94_179 h h1
theorem e_94_182 : g_Pg 94 182 = ga_iload 1 183 := (congrFun pg_94 182).trans rfl
theorem q_94_182 {l0 l2 l3 : Value} {x : Int32} {S : List Value} {Z : gZ} {I : gI} {J : gJ} : g_at 94 182 [l0, .int x, l2, l3] S Z I J = g_at 94 183 [l0, .int x, l2, l3] (.int x :: S) Z I J := gq_iload e_94_182 rfl
theorem e_94_183 : g_Pg 94 183 = ga_iald 184 := (congrFun pg_94 183).trans rfl
theorem q_94_183 {L : List Value} {a : Nat} {i : Int32} {S : List Value} {Z : gZ} {I : gI} {J : gJ} (h : gTg8 (gKd Z a).1 a = true) (h0 : 0 ≤ i) (h1 : i.toNatClampNeg < (gKd Z a).2) : g_at 94 183 L (.int i :: .ref a :: S) Z I J = g_at 94 184 L (.int (I a i.toNatClampNeg) :: S) Z I J := gq_iald e_94_183 h h0 h1
theorem e_94_184 : g_Pg 94 184 = ga_switch 0 [240, 240, 240, 240, 269, 269, 269, 271, 300, 306] 314 := (congrFun pg_94 184).trans rfl
theorem q_94_184 {L : List Value} {x : Int32} {S : List Value} {Z : gZ} {I : gI} {J : gJ} : g_at 94 184 L (.int x :: S) Z I J = if x = 0 then g_at 94 240 L S Z I J else if x = 1 then g_at 94 240 L S Z I J else if x = 2 then g_at 94 240 L S Z I J else if x = 3 then g_at 94 240 L S Z I J else if x = 4 then g_at 94 269 L S Z I J else if x = 5 then g_at 94 269 L S Z I J else if x = 6 then g_at 94 269 L S Z I J else if x = 7 then g_at 94 271 L S Z I J else if x = 8 then g_at 94 300 L S Z I J else if x = 9 then g_at 94 306 L S Z I J else g_at 94 314 L S Z I J := (gq_switch e_94_184).trans (gsw_cons (F := fun q => g_at 94 q L S Z I J) (lo := 0) (lo' := 1) (v := 0) rfl rfl (gsw_cons (F := fun q => g_at 94 q L S Z I J) (lo := 1) (lo' := 2) (v := 1) rfl rfl (gsw_cons (F := fun q => g_at 94 q L S Z I J) (lo := 2) (lo' := 3) (v := 2) rfl rfl (gsw_cons (F := fun q => g_at 94 q L S Z I J) (lo := 3) (lo' := 4) (v := 3) rfl rfl (gsw_cons (F := fun q => g_at 94 q L S Z I J) (lo := 4) (lo' := 5) (v := 4) rfl rfl (gsw_cons (F := fun q => g_at 94 q L S Z I J) (lo := 5) (lo' := 6) (v := 5) rfl rfl (gsw_cons (F := fun q => g_at 94 q L S Z I J) (lo := 6) (lo' := 7) (v := 6) rfl rfl (gsw_cons (F := fun q => g_at 94 q L S Z I J) (lo := 7) (lo' := 8) (v := 7) rfl rfl (gsw_cons (F := fun q => g_at 94 q L S Z I J) (lo := 8) (lo' := 9) (v := 8) rfl rfl (gsw_cons (F := fun q => g_at 94 q L S Z I J) (lo := 9) (lo' := 10) (v := 9) rfl rfl rfl))))))))))
theorem e_94_240 : g_Pg 94 240 = ga_aload 0 241 := (congrFun pg_94 240).trans rfl
theorem q_94_240 {l1 l2 l3 : Value} {x : Nat} {S : List Value} {Z : gZ} {I : gI} {J : gJ} : g_at 94 240 [.ref x, l1, l2, l3] S Z I J = g_at 94 241 [.ref x, l1, l2, l3] (.ref x :: S) Z I J := gq_aload e_94_240 rfl
theorem e_94_241 : g_Pg 94 241 = ga_iload 1 242 := (congrFun pg_94 241).trans rfl
theorem q_94_241 {l0 l2 l3 : Value} {x : Int32} {S : List Value} {Z : gZ} {I : gI} {J : gJ} : g_at 94 241 [l0, .int x, l2, l3] S Z I J = g_at 94 242 [l0, .int x, l2, l3] (.int x :: S) Z I J := gq_iload e_94_241 rfl
theorem e_94_242 : g_Pg 94 242 = ga_push (.int 1) 243 := (congrFun pg_94 242).trans rfl
theorem q_94_242 {L : List Value} {S : List Value} {Z : gZ} {I : gI} {J : gJ} : g_at 94 242 L S Z I J = g_at 94 243 L (.int 1 :: S) Z I J := gq_push e_94_242
theorem e_94_243 : g_Pg 94 243 = ga_bin (fun x y => x + y) 244 := (congrFun pg_94 243).trans rfl
theorem q_94_243 {L : List Value} {x y : Int32} {S : List Value} {Z : gZ} {I : gI} {J : gJ} : g_at 94 243 L (.int y :: .int x :: S) Z I J = g_at 94 244 L (.int (x + y) :: S) Z I J := gq_bin e_94_243
theorem e_94_244 : g_Pg 94 244 = ga_callV 7 92 1 247 := (congrFun pg_94 244).trans rfl
theorem q_94_244 {L : List Value} {a0 : Int32} {a1 : Nat} {Z : gZ} {I : gI} {J : gJ} (h : (gKd Z a1).1 = 7) : g_at 94 244 L [.int a0, .ref a1] Z I J = (g_at 92 0 [.ref a1, .int a0] [] Z I J).bind (fun r => g_at 94 247 L (r.1.toList ++ []) r.2.1 r.2.2.1 r.2.2.2) := gq_callV e_94_244 rfl rfl h rfl rfl rfl rfl rfl
theorem e_94_247 : g_Pg 94 247 = ga_if (fun x => decide (x = 0)) 267 250 := (congrFun pg_94 247).trans rfl
theorem q_94_247 {L : List Value} {x : Int32} {S : List Value} {Z : gZ} {I : gI} {J : gJ} : g_at 94 247 L (.int x :: S) Z I J = if x = 0 then g_at 94 267 L S Z I J else g_at 94 250 L S Z I J := gq_if e_94_247 rfl
theorem e_94_250 : g_Pg 94 250 = ga_aload 0 251 := (congrFun pg_94 250).trans rfl
theorem q_94_250 {l1 l2 l3 : Value} {x : Nat} {S : List Value} {Z : gZ} {I : gI} {J : gJ} : g_at 94 250 [.ref x, l1, l2, l3] S Z I J = g_at 94 251 [.ref x, l1, l2, l3] (.ref x :: S) Z I J := gq_aload e_94_250 rfl
theorem e_94_251 : g_Pg 94 251 = ga_iload 1 252 := (congrFun pg_94 251).trans rfl
theorem q_94_251 {l0 l2 l3 : Value} {x : Int32} {S : List Value} {Z : gZ} {I : gI} {J : gJ} : g_at 94 251 [l0, .int x, l2, l3] S Z I J = g_at 94 252 [l0, .int x, l2, l3] (.int x :: S) Z I J := gq_iload e_94_251 rfl
theorem e_94_252 : g_Pg 94 252 = ga_push (.int 2) 253 := (congrFun pg_94 252).trans rfl
theorem q_94_252 {L : List Value} {S : List Value} {Z : gZ} {I : gI} {J : gJ} : g_at 94 252 L S Z I J = g_at 94 253 L (.int 2 :: S) Z I J := gq_push e_94_252
theorem e_94_253 : g_Pg 94 253 = ga_bin (fun x y => x + y) 254 := (congrFun pg_94 253).trans rfl
theorem q_94_253 {L : List Value} {x y : Int32} {S : List Value} {Z : gZ} {I : gI} {J : gJ} : g_at 94 253 L (.int y :: .int x :: S) Z I J = g_at 94 254 L (.int (x + y) :: S) Z I J := gq_bin e_94_253
theorem e_94_254 : g_Pg 94 254 = ga_push (.int 1) 255 := (congrFun pg_94 254).trans rfl
theorem q_94_254 {L : List Value} {S : List Value} {Z : gZ} {I : gI} {J : gJ} : g_at 94 254 L S Z I J = g_at 94 255 L (.int 1 :: S) Z I J := gq_push e_94_254
theorem e_94_255 : g_Pg 94 255 = ga_push (.int 20) 257 := (congrFun pg_94 255).trans rfl
theorem q_94_255 {L : List Value} {S : List Value} {Z : gZ} {I : gI} {J : gJ} : g_at 94 255 L S Z I J = g_at 94 257 L (.int 20 :: S) Z I J := gq_push e_94_255
theorem e_94_257 : g_Pg 94 257 = ga_callV 7 91 3 260 := (congrFun pg_94 257).trans rfl
theorem q_94_257 {L : List Value} {a0 : Int32} {a1 : Int32} {a2 : Int32} {a3 : Nat} {Z : gZ} {I : gI} {J : gJ} (h : (gKd Z a3).1 = 7) : g_at 94 257 L [.int a0, .int a1, .int a2, .ref a3] Z I J = (g_at 91 0 [.ref a3, .int a2, .int a1, .int a0] [] Z I J).bind (fun r => g_at 94 260 L (r.1.toList ++ []) r.2.1 r.2.2.1 r.2.2.2) := gq_callV e_94_257 rfl rfl h rfl rfl rfl rfl rfl
theorem e_94_260 : g_Pg 94 260 = ga_if (fun x => decide (x = 0)) 267 263 := (congrFun pg_94 260).trans rfl
theorem q_94_260 {L : List Value} {x : Int32} {S : List Value} {Z : gZ} {I : gI} {J : gJ} : g_at 94 260 L (.int x :: S) Z I J = if x = 0 then g_at 94 267 L S Z I J else g_at 94 263 L S Z I J := gq_if e_94_260 rfl
theorem e_94_263 : g_Pg 94 263 = ga_push (.int 1) 264 := (congrFun pg_94 263).trans rfl
theorem q_94_263 {L : List Value} {S : List Value} {Z : gZ} {I : gI} {J : gJ} : g_at 94 263 L S Z I J = g_at 94 264 L (.int 1 :: S) Z I J := gq_push e_94_263
theorem e_94_264 : g_Pg 94 264 = ga_goto 268 := (congrFun pg_94 264).trans rfl
theorem q_94_264 {L : List Value} {S : List Value} {Z : gZ} {I : gI} {J : gJ} : g_at 94 264 L S Z I J = g_at 94 268 L S Z I J := gq_goto e_94_264
theorem e_94_267 : g_Pg 94 267 = ga_push (.int 0) 268 := (congrFun pg_94 267).trans rfl
theorem q_94_267 {L : List Value} {S : List Value} {Z : gZ} {I : gI} {J : gJ} : g_at 94 267 L S Z I J = g_at 94 268 L (.int 0 :: S) Z I J := gq_push e_94_267
theorem e_94_268 : g_Pg 94 268 = ga_zret := (congrFun pg_94 268).trans rfl
theorem q_94_268 {L : List Value} {x : Int32} {Z : gZ} {I : gI} {J : gJ} (h : gB01 x = true) : g_at 94 268 L [.int x] Z I J = some (some (.int x), Z, I, J) := gq_zret e_94_268 h
theorem e_94_269 : g_Pg 94 269 = ga_push (.int 1) 270 := (congrFun pg_94 269).trans rfl
theorem q_94_269 {L : List Value} {S : List Value} {Z : gZ} {I : gI} {J : gJ} : g_at 94 269 L S Z I J = g_at 94 270 L (.int 1 :: S) Z I J := gq_push e_94_269
theorem e_94_270 : g_Pg 94 270 = ga_zret := (congrFun pg_94 270).trans rfl
theorem q_94_270 {L : List Value} {x : Int32} {Z : gZ} {I : gI} {J : gJ} (h : gB01 x = true) : g_at 94 270 L [.int x] Z I J = some (some (.int x), Z, I, J) := gq_zret e_94_270 h
theorem e_94_271 : g_Pg 94 271 = ga_aload 0 272 := (congrFun pg_94 271).trans rfl
theorem q_94_271 {l1 l2 l3 : Value} {x : Nat} {S : List Value} {Z : gZ} {I : gI} {J : gJ} : g_at 94 271 [.ref x, l1, l2, l3] S Z I J = g_at 94 272 [.ref x, l1, l2, l3] (.ref x :: S) Z I J := gq_aload e_94_271 rfl
theorem e_94_272 : g_Pg 94 272 = ga_iload 1 273 := (congrFun pg_94 272).trans rfl
theorem q_94_272 {l0 l2 l3 : Value} {x : Int32} {S : List Value} {Z : gZ} {I : gI} {J : gJ} : g_at 94 272 [l0, .int x, l2, l3] S Z I J = g_at 94 273 [l0, .int x, l2, l3] (.int x :: S) Z I J := gq_iload e_94_272 rfl
theorem e_94_273 : g_Pg 94 273 = ga_push (.int 1) 274 := (congrFun pg_94 273).trans rfl
theorem q_94_273 {L : List Value} {S : List Value} {Z : gZ} {I : gI} {J : gJ} : g_at 94 273 L S Z I J = g_at 94 274 L (.int 1 :: S) Z I J := gq_push e_94_273
theorem e_94_274 : g_Pg 94 274 = ga_bin (fun x y => x + y) 275 := (congrFun pg_94 274).trans rfl
theorem q_94_274 {L : List Value} {x y : Int32} {S : List Value} {Z : gZ} {I : gI} {J : gJ} : g_at 94 274 L (.int y :: .int x :: S) Z I J = g_at 94 275 L (.int (x + y) :: S) Z I J := gq_bin e_94_274
theorem e_94_275 : g_Pg 94 275 = ga_push (.int 2) 276 := (congrFun pg_94 275).trans rfl
theorem q_94_275 {L : List Value} {S : List Value} {Z : gZ} {I : gI} {J : gJ} : g_at 94 275 L S Z I J = g_at 94 276 L (.int 2 :: S) Z I J := gq_push e_94_275
theorem e_94_276 : g_Pg 94 276 = ga_push (.int 10) 278 := (congrFun pg_94 276).trans rfl
theorem q_94_276 {L : List Value} {S : List Value} {Z : gZ} {I : gI} {J : gJ} : g_at 94 276 L S Z I J = g_at 94 278 L (.int 10 :: S) Z I J := gq_push e_94_276
theorem e_94_278 : g_Pg 94 278 = ga_callV 7 91 3 281 := (congrFun pg_94 278).trans rfl
theorem q_94_278 {L : List Value} {a0 : Int32} {a1 : Int32} {a2 : Int32} {a3 : Nat} {Z : gZ} {I : gI} {J : gJ} (h : (gKd Z a3).1 = 7) : g_at 94 278 L [.int a0, .int a1, .int a2, .ref a3] Z I J = (g_at 91 0 [.ref a3, .int a2, .int a1, .int a0] [] Z I J).bind (fun r => g_at 94 281 L (r.1.toList ++ []) r.2.1 r.2.2.1 r.2.2.2) := gq_callV e_94_278 rfl rfl h rfl rfl rfl rfl rfl
theorem e_94_281 : g_Pg 94 281 = ga_if (fun x => decide (¬ x = 0)) 286 284 := (congrFun pg_94 281).trans rfl
theorem q_94_281 {L : List Value} {x : Int32} {S : List Value} {Z : gZ} {I : gI} {J : gJ} : g_at 94 281 L (.int x :: S) Z I J = if ¬ x = 0 then g_at 94 286 L S Z I J else g_at 94 284 L S Z I J := gq_if e_94_281 rfl
theorem e_94_284 : g_Pg 94 284 = ga_push (.int 0) 285 := (congrFun pg_94 284).trans rfl
theorem q_94_284 {L : List Value} {S : List Value} {Z : gZ} {I : gI} {J : gJ} : g_at 94 284 L S Z I J = g_at 94 285 L (.int 0 :: S) Z I J := gq_push e_94_284
theorem e_94_285 : g_Pg 94 285 = ga_zret := (congrFun pg_94 285).trans rfl
theorem q_94_285 {L : List Value} {x : Int32} {Z : gZ} {I : gI} {J : gJ} (h : gB01 x = true) : g_at 94 285 L [.int x] Z I J = some (some (.int x), Z, I, J) := gq_zret e_94_285 h
theorem e_94_286 : g_Pg 94 286 = ga_aload 0 287 := (congrFun pg_94 286).trans rfl
theorem q_94_286 {l1 l2 l3 : Value} {x : Nat} {S : List Value} {Z : gZ} {I : gI} {J : gJ} : g_at 94 286 [.ref x, l1, l2, l3] S Z I J = g_at 94 287 [.ref x, l1, l2, l3] (.ref x :: S) Z I J := gq_aload e_94_286 rfl
theorem e_94_287 : g_Pg 94 287 = ga_aload 0 288 := (congrFun pg_94 287).trans rfl
theorem q_94_287 {l1 l2 l3 : Value} {x : Nat} {S : List Value} {Z : gZ} {I : gI} {J : gJ} : g_at 94 287 [.ref x, l1, l2, l3] S Z I J = g_at 94 288 [.ref x, l1, l2, l3] (.ref x :: S) Z I J := gq_aload e_94_287 rfl
theorem e_94_288 : g_Pg 94 288 = ga_getR 7 17 291 := (congrFun pg_94 288).trans rfl
theorem q_94_288 {L : List Value} {a : Nat} {S : List Value} {Z : gZ} {I : gI} {J : gJ} (h : (gKd Z a).1 = 7) (h1 : gRs Z a 17 = true) : g_at 94 288 L (.ref a :: S) Z I J = g_at 94 291 L (.ref (gRq Z a 17) :: S) Z I J := gq_getR e_94_288 h h1
theorem e_94_291 : g_Pg 94 291 = ga_iload 1 292 := (congrFun pg_94 291).trans rfl
theorem q_94_291 {l0 l2 l3 : Value} {x : Int32} {S : List Value} {Z : gZ} {I : gI} {J : gJ} : g_at 94 291 [l0, .int x, l2, l3] S Z I J = g_at 94 292 [l0, .int x, l2, l3] (.int x :: S) Z I J := gq_iload e_94_291 rfl
theorem e_94_292 : g_Pg 94 292 = ga_push (.int 1) 293 := (congrFun pg_94 292).trans rfl
theorem q_94_292 {L : List Value} {S : List Value} {Z : gZ} {I : gI} {J : gJ} : g_at 94 292 L S Z I J = g_at 94 293 L (.int 1 :: S) Z I J := gq_push e_94_292
theorem e_94_293 : g_Pg 94 293 = ga_bin (fun x y => x + y) 294 := (congrFun pg_94 293).trans rfl
theorem q_94_293 {L : List Value} {x y : Int32} {S : List Value} {Z : gZ} {I : gI} {J : gJ} : g_at 94 293 L (.int y :: .int x :: S) Z I J = g_at 94 294 L (.int (x + y) :: S) Z I J := gq_bin e_94_293
theorem e_94_294 : g_Pg 94 294 = ga_iald 295 := (congrFun pg_94 294).trans rfl
theorem q_94_294 {L : List Value} {a : Nat} {i : Int32} {S : List Value} {Z : gZ} {I : gI} {J : gJ} (h : gTg8 (gKd Z a).1 a = true) (h0 : 0 ≤ i) (h1 : i.toNatClampNeg < (gKd Z a).2) : g_at 94 294 L (.int i :: .ref a :: S) Z I J = g_at 94 295 L (.int (I a i.toNatClampNeg) :: S) Z I J := gq_iald e_94_294 h h0 h1
theorem e_94_295 : g_Pg 94 295 = ga_putI 7 16 298 := (congrFun pg_94 295).trans rfl
theorem q_94_295 {L : List Value} {a : Nat} {v : Int32} {S : List Value} {Z : gZ} {I : gI} {J : gJ} (h : (gKd Z a).1 = 7) : g_at 94 295 L (.int v :: .ref a :: S) Z I J = g_at 94 298 L S Z (va_up I a (va_up (I a) 16 v)) J := gq_putI e_94_295 h
theorem e_94_298 : g_Pg 94 298 = ga_push (.int 1) 299 := (congrFun pg_94 298).trans rfl
theorem q_94_298 {L : List Value} {S : List Value} {Z : gZ} {I : gI} {J : gJ} : g_at 94 298 L S Z I J = g_at 94 299 L (.int 1 :: S) Z I J := gq_push e_94_298
theorem e_94_299 : g_Pg 94 299 = ga_zret := (congrFun pg_94 299).trans rfl
theorem q_94_299 {L : List Value} {x : Int32} {Z : gZ} {I : gI} {J : gJ} (h : gB01 x = true) : g_at 94 299 L [.int x] Z I J = some (some (.int x), Z, I, J) := gq_zret e_94_299 h
theorem e_94_300 : g_Pg 94 300 = ga_aload 0 301 := (congrFun pg_94 300).trans rfl
theorem q_94_300 {l1 l2 l3 : Value} {x : Nat} {S : List Value} {Z : gZ} {I : gI} {J : gJ} : g_at 94 300 [.ref x, l1, l2, l3] S Z I J = g_at 94 301 [.ref x, l1, l2, l3] (.ref x :: S) Z I J := gq_aload e_94_300 rfl
theorem e_94_301 : g_Pg 94 301 = ga_iload 1 302 := (congrFun pg_94 301).trans rfl
theorem q_94_301 {l0 l2 l3 : Value} {x : Int32} {S : List Value} {Z : gZ} {I : gI} {J : gJ} : g_at 94 301 [l0, .int x, l2, l3] S Z I J = g_at 94 302 [l0, .int x, l2, l3] (.int x :: S) Z I J := gq_iload e_94_301 rfl
theorem e_94_302 : g_Pg 94 302 = ga_callV 7 93 1 305 := (congrFun pg_94 302).trans rfl
theorem q_94_302 {L : List Value} {a0 : Int32} {a1 : Nat} {Z : gZ} {I : gI} {J : gJ} (h : (gKd Z a1).1 = 7) : g_at 94 302 L [.int a0, .ref a1] Z I J = (g_at 93 0 [.ref a1, .int a0] [] Z I J).bind (fun r => g_at 94 305 L (r.1.toList ++ []) r.2.1 r.2.2.1 r.2.2.2) := gq_callV e_94_302 rfl rfl h rfl rfl rfl rfl rfl
theorem e_94_305 : g_Pg 94 305 = ga_zret := (congrFun pg_94 305).trans rfl
theorem q_94_305 {L : List Value} {x : Int32} {Z : gZ} {I : gI} {J : gJ} (h : gB01 x = true) : g_at 94 305 L [.int x] Z I J = some (some (.int x), Z, I, J) := gq_zret e_94_305 h
theorem e_94_306 : g_Pg 94 306 = ga_aload 0 307 := (congrFun pg_94 306).trans rfl
theorem q_94_306 {l1 l2 l3 : Value} {x : Nat} {S : List Value} {Z : gZ} {I : gI} {J : gJ} : g_at 94 306 [.ref x, l1, l2, l3] S Z I J = g_at 94 307 [.ref x, l1, l2, l3] (.ref x :: S) Z I J := gq_aload e_94_306 rfl
theorem e_94_307 : g_Pg 94 307 = ga_iload 1 308 := (congrFun pg_94 307).trans rfl
theorem q_94_307 {l0 l2 l3 : Value} {x : Int32} {S : List Value} {Z : gZ} {I : gI} {J : gJ} : g_at 94 307 [l0, .int x, l2, l3] S Z I J = g_at 94 308 [l0, .int x, l2, l3] (.int x :: S) Z I J := gq_iload e_94_307 rfl
theorem e_94_308 : g_Pg 94 308 = ga_push (.int 1) 309 := (congrFun pg_94 308).trans rfl
theorem q_94_308 {L : List Value} {S : List Value} {Z : gZ} {I : gI} {J : gJ} : g_at 94 308 L S Z I J = g_at 94 309 L (.int 1 :: S) Z I J := gq_push e_94_308
theorem e_94_309 : g_Pg 94 309 = ga_bin (fun x y => x + y) 310 := (congrFun pg_94 309).trans rfl
theorem q_94_309 {L : List Value} {x y : Int32} {S : List Value} {Z : gZ} {I : gI} {J : gJ} : g_at 94 309 L (.int y :: .int x :: S) Z I J = g_at 94 310 L (.int (x + y) :: S) Z I J := gq_bin e_94_309
theorem e_94_310 : g_Pg 94 310 = ga_callV 7 92 1 313 := (congrFun pg_94 310).trans rfl
theorem q_94_310 {L : List Value} {a0 : Int32} {a1 : Nat} {Z : gZ} {I : gI} {J : gJ} (h : (gKd Z a1).1 = 7) : g_at 94 310 L [.int a0, .ref a1] Z I J = (g_at 92 0 [.ref a1, .int a0] [] Z I J).bind (fun r => g_at 94 313 L (r.1.toList ++ []) r.2.1 r.2.2.1 r.2.2.2) := gq_callV e_94_310 rfl rfl h rfl rfl rfl rfl rfl
theorem e_94_313 : g_Pg 94 313 = ga_zret := (congrFun pg_94 313).trans rfl
theorem q_94_313 {L : List Value} {x : Int32} {Z : gZ} {I : gI} {J : gJ} (h : gB01 x = true) : g_at 94 313 L [.int x] Z I J = some (some (.int x), Z, I, J) := gq_zret e_94_313 h
theorem e_94_314 : g_Pg 94 314 = ga_aload 0 315 := (congrFun pg_94 314).trans rfl
theorem q_94_314 {l1 l2 l3 : Value} {x : Nat} {S : List Value} {Z : gZ} {I : gI} {J : gJ} : g_at 94 314 [.ref x, l1, l2, l3] S Z I J = g_at 94 315 [.ref x, l1, l2, l3] (.ref x :: S) Z I J := gq_aload e_94_314 rfl
theorem e_94_315 : g_Pg 94 315 = ga_callV 7 90 0 318 := (congrFun pg_94 315).trans rfl
theorem q_94_315 {L : List Value} {a0 : Nat} {Z : gZ} {I : gI} {J : gJ} (h : (gKd Z a0).1 = 7) : g_at 94 315 L [.ref a0] Z I J = (g_at 90 0 [.ref a0] [] Z I J).bind (fun r => g_at 94 318 L (r.1.toList ++ []) r.2.1 r.2.2.1 r.2.2.2) := gq_callV e_94_315 rfl rfl h rfl rfl rfl rfl rfl
theorem e_94_318 : g_Pg 94 318 = ga_zret := (congrFun pg_94 318).trans rfl
theorem q_94_318 {L : List Value} {x : Int32} {Z : gZ} {I : gI} {J : gJ} (h : gB01 x = true) : g_at 94 318 L [.int x] Z I J = some (some (.int x), Z, I, J) := gq_zret e_94_318 h
theorem e_95_0 : g_Pg 95 0 = ga_aload 0 1 := (congrFun pg_95 0).trans rfl
theorem q_95_0 {l1 : Value} {x : Nat} {S : List Value} {Z : gZ} {I : gI} {J : gJ} : g_at 95 0 [.ref x, l1] S Z I J = g_at 95 1 [.ref x, l1] (.ref x :: S) Z I J := gq_aload e_95_0 rfl
theorem e_95_1 : g_Pg 95 1 = ga_push (.int 0) 2 := (congrFun pg_95 1).trans rfl
theorem q_95_1 {L : List Value} {S : List Value} {Z : gZ} {I : gI} {J : gJ} : g_at 95 1 L S Z I J = g_at 95 2 L (.int 0 :: S) Z I J := gq_push e_95_1
theorem e_95_2 : g_Pg 95 2 = ga_putI 7 9 5 := (congrFun pg_95 2).trans rfl
theorem q_95_2 {L : List Value} {a : Nat} {v : Int32} {S : List Value} {Z : gZ} {I : gI} {J : gJ} (h : (gKd Z a).1 = 7) : g_at 95 2 L (.int v :: .ref a :: S) Z I J = g_at 95 5 L S Z (va_up I a (va_up (I a) 9 v)) J := gq_putI e_95_2 h
theorem e_95_5 : g_Pg 95 5 = ga_aload 0 6 := (congrFun pg_95 5).trans rfl
theorem q_95_5 {l1 : Value} {x : Nat} {S : List Value} {Z : gZ} {I : gI} {J : gJ} : g_at 95 5 [.ref x, l1] S Z I J = g_at 95 6 [.ref x, l1] (.ref x :: S) Z I J := gq_aload e_95_5 rfl
theorem e_95_6 : g_Pg 95 6 = ga_push (.int 0) 7 := (congrFun pg_95 6).trans rfl
theorem q_95_6 {L : List Value} {S : List Value} {Z : gZ} {I : gI} {J : gJ} : g_at 95 6 L S Z I J = g_at 95 7 L (.int 0 :: S) Z I J := gq_push e_95_6
theorem e_95_7 : g_Pg 95 7 = ga_putI 7 15 10 := (congrFun pg_95 7).trans rfl
theorem q_95_7 {L : List Value} {a : Nat} {v : Int32} {S : List Value} {Z : gZ} {I : gI} {J : gJ} (h : (gKd Z a).1 = 7) : g_at 95 7 L (.int v :: .ref a :: S) Z I J = g_at 95 10 L S Z (va_up I a (va_up (I a) 15 v)) J := gq_putI e_95_7 h
theorem e_95_10 : g_Pg 95 10 = ga_aload 0 11 := (congrFun pg_95 10).trans rfl
theorem q_95_10 {l1 : Value} {x : Nat} {S : List Value} {Z : gZ} {I : gI} {J : gJ} : g_at 95 10 [.ref x, l1] S Z I J = g_at 95 11 [.ref x, l1] (.ref x :: S) Z I J := gq_aload e_95_10 rfl
theorem e_95_11 : g_Pg 95 11 = ga_aload 0 12 := (congrFun pg_95 11).trans rfl
theorem q_95_11 {l1 : Value} {x : Nat} {S : List Value} {Z : gZ} {I : gI} {J : gJ} : g_at 95 11 [.ref x, l1] S Z I J = g_at 95 12 [.ref x, l1] (.ref x :: S) Z I J := gq_aload e_95_11 rfl
theorem e_95_12 : g_Pg 95 12 = ga_getI 7 0 15 := (congrFun pg_95 12).trans rfl
theorem q_95_12 {L : List Value} {a : Nat} {S : List Value} {Z : gZ} {I : gI} {J : gJ} (h : (gKd Z a).1 = 7) : g_at 95 12 L (.ref a :: S) Z I J = g_at 95 15 L (.int (I a 0) :: S) Z I J := gq_getI e_95_12 h
theorem e_95_15 : g_Pg 95 15 = ga_putI 7 16 18 := (congrFun pg_95 15).trans rfl
theorem q_95_15 {L : List Value} {a : Nat} {v : Int32} {S : List Value} {Z : gZ} {I : gI} {J : gJ} (h : (gKd Z a).1 = 7) : g_at 95 15 L (.int v :: .ref a :: S) Z I J = g_at 95 18 L S Z (va_up I a (va_up (I a) 16 v)) J := gq_putI e_95_15 h
theorem e_95_18 : g_Pg 95 18 = ga_push (.int 1) 19 := (congrFun pg_95 18).trans rfl
theorem q_95_18 {L : List Value} {S : List Value} {Z : gZ} {I : gI} {J : gJ} : g_at 95 18 L S Z I J = g_at 95 19 L (.int 1 :: S) Z I J := gq_push e_95_18
theorem e_95_19 : g_Pg 95 19 = ga_istore 1 20 := (congrFun pg_95 19).trans rfl
theorem q_95_19 {l0 l1 : Value} {x : Int32} {S : List Value} {Z : gZ} {I : gI} {J : gJ} (h : gN1 l0 = true) : g_at 95 19 [l0, l1] (.int x :: S) Z I J = g_at 95 20 [l0, .int x] S Z I J := gq_istore e_95_19 h rfl rfl
theorem e_95_20 : g_Pg 95 20 = ga_iload 1 21 := (congrFun pg_95 20).trans rfl
theorem q_95_20 {l0 : Value} {x : Int32} {S : List Value} {Z : gZ} {I : gI} {J : gJ} : g_at 95 20 [l0, .int x] S Z I J = g_at 95 21 [l0, .int x] (.int x :: S) Z I J := gq_iload e_95_20 rfl
theorem e_95_21 : g_Pg 95 21 = ga_if (fun x => decide (x = 0)) 82 24 := (congrFun pg_95 21).trans rfl
theorem q_95_21 {L : List Value} {x : Int32} {S : List Value} {Z : gZ} {I : gI} {J : gJ} : g_at 95 21 L (.int x :: S) Z I J = if x = 0 then g_at 95 82 L S Z I J else g_at 95 24 L S Z I J := gq_if e_95_21 rfl
theorem e_95_24 : g_Pg 95 24 = ga_aload 0 25 := (congrFun pg_95 24).trans rfl
theorem q_95_24 {l1 : Value} {x : Nat} {S : List Value} {Z : gZ} {I : gI} {J : gJ} : g_at 95 24 [.ref x, l1] S Z I J = g_at 95 25 [.ref x, l1] (.ref x :: S) Z I J := gq_aload e_95_24 rfl
theorem e_95_25 : g_Pg 95 25 = ga_push (.int 4) 26 := (congrFun pg_95 25).trans rfl
theorem q_95_25 {L : List Value} {S : List Value} {Z : gZ} {I : gI} {J : gJ} : g_at 95 25 L S Z I J = g_at 95 26 L (.int 4 :: S) Z I J := gq_push e_95_25
theorem e_95_26 : g_Pg 95 26 = ga_aload 0 27 := (congrFun pg_95 26).trans rfl
theorem q_95_26 {l1 : Value} {x : Nat} {S : List Value} {Z : gZ} {I : gI} {J : gJ} : g_at 95 26 [.ref x, l1] S Z I J = g_at 95 27 [.ref x, l1] (.ref x :: S) Z I J := gq_aload e_95_26 rfl
theorem e_95_27 : g_Pg 95 27 = ga_getI 7 15 30 := (congrFun pg_95 27).trans rfl
theorem q_95_27 {L : List Value} {a : Nat} {S : List Value} {Z : gZ} {I : gI} {J : gJ} (h : (gKd Z a).1 = 7) : g_at 95 27 L (.ref a :: S) Z I J = g_at 95 30 L (.int (I a 15) :: S) Z I J := gq_getI e_95_27 h
theorem e_95_30 : g_Pg 95 30 = ga_bin (fun x y => x * y) 31 := (congrFun pg_95 30).trans rfl
theorem q_95_30 {L : List Value} {x y : Int32} {S : List Value} {Z : gZ} {I : gI} {J : gJ} : g_at 95 30 L (.int y :: .int x :: S) Z I J = g_at 95 31 L (.int (x * y) :: S) Z I J := gq_bin e_95_30
theorem e_95_31 : g_Pg 95 31 = ga_callV 7 94 1 34 := (congrFun pg_95 31).trans rfl
theorem q_95_31 {L : List Value} {a0 : Int32} {a1 : Nat} {Z : gZ} {I : gI} {J : gJ} (h : (gKd Z a1).1 = 7) : g_at 95 31 L [.int a0, .ref a1] Z I J = (g_at 94 0 [.ref a1, .int a0, .null, .null] [] Z I J).bind (fun r => g_at 95 34 L (r.1.toList ++ []) r.2.1 r.2.2.1 r.2.2.2) := gq_callV e_95_31 rfl rfl h rfl rfl rfl rfl rfl
theorem e_95_34 : g_Pg 95 34 = ga_if (fun x => decide (¬ x = 0)) 39 37 := (congrFun pg_95 34).trans rfl
theorem q_95_34 {L : List Value} {x : Int32} {S : List Value} {Z : gZ} {I : gI} {J : gJ} : g_at 95 34 L (.int x :: S) Z I J = if ¬ x = 0 then g_at 95 39 L S Z I J else g_at 95 37 L S Z I J := gq_if e_95_34 rfl
theorem e_95_37 : g_Pg 95 37 = ga_push (.int 0) 38 := (congrFun pg_95 37).trans rfl
theorem q_95_37 {L : List Value} {S : List Value} {Z : gZ} {I : gI} {J : gJ} : g_at 95 37 L S Z I J = g_at 95 38 L (.int 0 :: S) Z I J := gq_push e_95_37
theorem e_95_38 : g_Pg 95 38 = ga_zret := (congrFun pg_95 38).trans rfl
theorem q_95_38 {L : List Value} {x : Int32} {Z : gZ} {I : gI} {J : gJ} (h : gB01 x = true) : g_at 95 38 L [.int x] Z I J = some (some (.int x), Z, I, J) := gq_zret e_95_38 h
theorem e_95_39 : g_Pg 95 39 = ga_aload 0 40 := (congrFun pg_95 39).trans rfl
theorem q_95_39 {l1 : Value} {x : Nat} {S : List Value} {Z : gZ} {I : gI} {J : gJ} : g_at 95 39 [.ref x, l1] S Z I J = g_at 95 40 [.ref x, l1] (.ref x :: S) Z I J := gq_aload e_95_39 rfl
theorem e_95_40 : g_Pg 95 40 = ga_dup 41 := (congrFun pg_95 40).trans rfl
theorem q_95_40 {L : List Value} {x : Nat} {S : List Value} {Z : gZ} {I : gI} {J : gJ} : g_at 95 40 L (.ref x :: S) Z I J = g_at 95 41 L (.ref x :: .ref x :: S) Z I J := gq_dup e_95_40
theorem e_95_41 : g_Pg 95 41 = ga_getI 7 15 44 := (congrFun pg_95 41).trans rfl
theorem q_95_41 {L : List Value} {a : Nat} {S : List Value} {Z : gZ} {I : gI} {J : gJ} (h : (gKd Z a).1 = 7) : g_at 95 41 L (.ref a :: S) Z I J = g_at 95 44 L (.int (I a 15) :: S) Z I J := gq_getI e_95_41 h
theorem e_95_44 : g_Pg 95 44 = ga_push (.int 1) 45 := (congrFun pg_95 44).trans rfl
theorem q_95_44 {L : List Value} {S : List Value} {Z : gZ} {I : gI} {J : gJ} : g_at 95 44 L S Z I J = g_at 95 45 L (.int 1 :: S) Z I J := gq_push e_95_44
theorem e_95_45 : g_Pg 95 45 = ga_bin (fun x y => x + y) 46 := (congrFun pg_95 45).trans rfl
theorem q_95_45 {L : List Value} {x y : Int32} {S : List Value} {Z : gZ} {I : gI} {J : gJ} : g_at 95 45 L (.int y :: .int x :: S) Z I J = g_at 95 46 L (.int (x + y) :: S) Z I J := gq_bin e_95_45
theorem e_95_46 : g_Pg 95 46 = ga_putI 7 15 49 := (congrFun pg_95 46).trans rfl
theorem q_95_46 {L : List Value} {a : Nat} {v : Int32} {S : List Value} {Z : gZ} {I : gI} {J : gJ} (h : (gKd Z a).1 = 7) : g_at 95 46 L (.int v :: .ref a :: S) Z I J = g_at 95 49 L S Z (va_up I a (va_up (I a) 15 v)) J := gq_putI e_95_46 h
theorem e_95_49 : g_Pg 95 49 = ga_aload 0 50 := (congrFun pg_95 49).trans rfl
theorem q_95_49 {l1 : Value} {x : Nat} {S : List Value} {Z : gZ} {I : gI} {J : gJ} : g_at 95 49 [.ref x, l1] S Z I J = g_at 95 50 [.ref x, l1] (.ref x :: S) Z I J := gq_aload e_95_49 rfl
theorem e_95_50 : g_Pg 95 50 = ga_callV 7 89 0 53 := (congrFun pg_95 50).trans rfl
theorem q_95_50 {L : List Value} {a0 : Nat} {Z : gZ} {I : gI} {J : gJ} (h : (gKd Z a0).1 = 7) : g_at 95 50 L [.ref a0] Z I J = (g_at 89 0 [.ref a0] [] Z I J).bind (fun r => g_at 95 53 L (r.1.toList ++ []) r.2.1 r.2.2.1 r.2.2.2) := gq_callV e_95_50 rfl rfl h rfl rfl rfl rfl rfl
theorem e_95_53 : g_Pg 95 53 = ga_aload 0 54 := (congrFun pg_95 53).trans rfl
theorem q_95_53 {l1 : Value} {x : Nat} {S : List Value} {Z : gZ} {I : gI} {J : gJ} : g_at 95 53 [.ref x, l1] S Z I J = g_at 95 54 [.ref x, l1] (.ref x :: S) Z I J := gq_aload e_95_53 rfl
theorem e_95_54 : g_Pg 95 54 = ga_getL 7 11 57 := (congrFun pg_95 54).trans rfl
theorem q_95_54 {L : List Value} {a : Nat} {S : List Value} {Z : gZ} {I : gI} {J : gJ} (h : (gKd Z a).1 = 7) : g_at 95 54 L (.ref a :: S) Z I J = g_at 95 57 L (.long (J a 11) :: S) Z I J := gq_getL e_95_54 h
theorem e_95_57 : g_Pg 95 57 = ga_push (.long (-3)) 60 := (congrFun pg_95 57).trans rfl
theorem q_95_57 {L : List Value} {S : List Value} {Z : gZ} {I : gI} {J : gJ} : g_at 95 57 L S Z I J = g_at 95 60 L (.long (-3) :: S) Z I J := gq_push e_95_57
theorem e_95_60 : g_Pg 95 60 = ga_lcmp 61 := (congrFun pg_95 60).trans rfl
theorem q_95_60 {L : List Value} {x y : Int64} {S : List Value} {Z : gZ} {I : gI} {J : gJ} : g_at 95 60 L (.long y :: .long x :: S) Z I J = g_at 95 61 L (.int (lg_cmp x y) :: S) Z I J := gq_lcmp e_95_60
theorem e_95_61 : g_Pg 95 61 = ga_if (fun x => decide (¬ x = 0)) 77 64 := (congrFun pg_95 61).trans rfl
theorem q_95_61 {L : List Value} {x : Int32} {S : List Value} {Z : gZ} {I : gI} {J : gJ} : g_at 95 61 L (.int x :: S) Z I J = if ¬ x = 0 then g_at 95 77 L S Z I J else g_at 95 64 L S Z I J := gq_if e_95_61 rfl
theorem e_95_64 : g_Pg 95 64 = ga_aload 0 65 := (congrFun pg_95 64).trans rfl
theorem q_95_64 {l1 : Value} {x : Nat} {S : List Value} {Z : gZ} {I : gI} {J : gJ} : g_at 95 64 [.ref x, l1] S Z I J = g_at 95 65 [.ref x, l1] (.ref x :: S) Z I J := gq_aload e_95_64 rfl
theorem e_95_65 : g_Pg 95 65 = ga_getI 7 15 68 := (congrFun pg_95 65).trans rfl
theorem q_95_65 {L : List Value} {a : Nat} {S : List Value} {Z : gZ} {I : gI} {J : gJ} (h : (gKd Z a).1 = 7) : g_at 95 65 L (.ref a :: S) Z I J = g_at 95 68 L (.int (I a 15) :: S) Z I J := gq_getI e_95_65 h
theorem e_95_68 : g_Pg 95 68 = ga_push (.int 12) 70 := (congrFun pg_95 68).trans rfl
theorem q_95_68 {L : List Value} {S : List Value} {Z : gZ} {I : gI} {J : gJ} : g_at 95 68 L S Z I J = g_at 95 70 L (.int 12 :: S) Z I J := gq_push e_95_68
theorem e_95_70 : g_Pg 95 70 = ga_cmp (fun x y => decide (y ≤ x)) 77 73 := (congrFun pg_95 70).trans rfl
theorem q_95_70 {L : List Value} {x y : Int32} {S : List Value} {Z : gZ} {I : gI} {J : gJ} : g_at 95 70 L (.int y :: .int x :: S) Z I J = if y ≤ x then g_at 95 77 L S Z I J else g_at 95 73 L S Z I J := gq_cmp e_95_70 rfl
theorem e_95_73 : g_Pg 95 73 = ga_push (.int 1) 74 := (congrFun pg_95 73).trans rfl
theorem q_95_73 {L : List Value} {S : List Value} {Z : gZ} {I : gI} {J : gJ} : g_at 95 73 L S Z I J = g_at 95 74 L (.int 1 :: S) Z I J := gq_push e_95_73
theorem e_95_74 : g_Pg 95 74 = ga_goto 78 := (congrFun pg_95 74).trans rfl
theorem q_95_74 {L : List Value} {S : List Value} {Z : gZ} {I : gI} {J : gJ} : g_at 95 74 L S Z I J = g_at 95 78 L S Z I J := gq_goto e_95_74
theorem e_95_77 : g_Pg 95 77 = ga_push (.int 0) 78 := (congrFun pg_95 77).trans rfl
theorem q_95_77 {L : List Value} {S : List Value} {Z : gZ} {I : gI} {J : gJ} : g_at 95 77 L S Z I J = g_at 95 78 L (.int 0 :: S) Z I J := gq_push e_95_77
theorem e_95_78 : g_Pg 95 78 = ga_istore 1 79 := (congrFun pg_95 78).trans rfl
theorem q_95_78 {l0 l1 : Value} {x : Int32} {S : List Value} {Z : gZ} {I : gI} {J : gJ} (h : gN1 l0 = true) : g_at 95 78 [l0, l1] (.int x :: S) Z I J = g_at 95 79 [l0, .int x] S Z I J := gq_istore e_95_78 h rfl rfl
theorem e_95_79 : g_Pg 95 79 = ga_goto 20 := (congrFun pg_95 79).trans rfl
theorem q_95_79 {L : List Value} {S : List Value} {Z : gZ} {I : gI} {J : gJ} : g_at 95 79 L S Z I J = g_at 95 20 L S Z I J := gq_goto e_95_79
theorem e_95_82 : g_Pg 95 82 = ga_aload 0 83 := (congrFun pg_95 82).trans rfl
theorem q_95_82 {l1 : Value} {x : Nat} {S : List Value} {Z : gZ} {I : gI} {J : gJ} : g_at 95 82 [.ref x, l1] S Z I J = g_at 95 83 [.ref x, l1] (.ref x :: S) Z I J := gq_aload e_95_82 rfl
theorem e_95_83 : g_Pg 95 83 = ga_getL 7 11 86 := (congrFun pg_95 83).trans rfl
theorem q_95_83 {L : List Value} {a : Nat} {S : List Value} {Z : gZ} {I : gI} {J : gJ} (h : (gKd Z a).1 = 7) : g_at 95 83 L (.ref a :: S) Z I J = g_at 95 86 L (.long (J a 11) :: S) Z I J := gq_getL e_95_83 h
theorem e_95_86 : g_Pg 95 86 = ga_push (.long (-2)) 89 := (congrFun pg_95 86).trans rfl
theorem q_95_86 {L : List Value} {S : List Value} {Z : gZ} {I : gI} {J : gJ} : g_at 95 86 L S Z I J = g_at 95 89 L (.long (-2) :: S) Z I J := gq_push e_95_86
theorem e_95_89 : g_Pg 95 89 = ga_lcmp 90 := (congrFun pg_95 89).trans rfl
theorem q_95_89 {L : List Value} {x y : Int64} {S : List Value} {Z : gZ} {I : gI} {J : gJ} : g_at 95 89 L (.long y :: .long x :: S) Z I J = g_at 95 90 L (.int (lg_cmp x y) :: S) Z I J := gq_lcmp e_95_89
theorem e_95_90 : g_Pg 95 90 = ga_if (fun x => decide (x = 0)) 100 93 := (congrFun pg_95 90).trans rfl
theorem q_95_90 {L : List Value} {x : Int32} {S : List Value} {Z : gZ} {I : gI} {J : gJ} : g_at 95 90 L (.int x :: S) Z I J = if x = 0 then g_at 95 100 L S Z I J else g_at 95 93 L S Z I J := gq_if e_95_90 rfl
theorem e_95_93 : g_Pg 95 93 = ga_aload 0 94 := (congrFun pg_95 93).trans rfl
theorem q_95_93 {l1 : Value} {x : Nat} {S : List Value} {Z : gZ} {I : gI} {J : gJ} : g_at 95 93 [.ref x, l1] S Z I J = g_at 95 94 [.ref x, l1] (.ref x :: S) Z I J := gq_aload e_95_93 rfl
theorem e_95_94 : g_Pg 95 94 = ga_callV 7 90 0 97 := (congrFun pg_95 94).trans rfl
theorem q_95_94 {L : List Value} {a0 : Nat} {Z : gZ} {I : gI} {J : gJ} (h : (gKd Z a0).1 = 7) : g_at 95 94 L [.ref a0] Z I J = (g_at 90 0 [.ref a0] [] Z I J).bind (fun r => g_at 95 97 L (r.1.toList ++ []) r.2.1 r.2.2.1 r.2.2.2) := gq_callV e_95_94 rfl rfl h rfl rfl rfl rfl rfl
theorem e_95_97 : g_Pg 95 97 = ga_if (fun x => decide (x = 0)) 104 100 := (congrFun pg_95 97).trans rfl
theorem q_95_97 {L : List Value} {x : Int32} {S : List Value} {Z : gZ} {I : gI} {J : gJ} : g_at 95 97 L (.int x :: S) Z I J = if x = 0 then g_at 95 104 L S Z I J else g_at 95 100 L S Z I J := gq_if e_95_97 rfl
theorem e_95_100 : g_Pg 95 100 = ga_push (.int 1) 101 := (congrFun pg_95 100).trans rfl
theorem q_95_100 {L : List Value} {S : List Value} {Z : gZ} {I : gI} {J : gJ} : g_at 95 100 L S Z I J = g_at 95 101 L (.int 1 :: S) Z I J := gq_push e_95_100
theorem e_95_101 : g_Pg 95 101 = ga_goto 105 := (congrFun pg_95 101).trans rfl
theorem q_95_101 {L : List Value} {S : List Value} {Z : gZ} {I : gI} {J : gJ} : g_at 95 101 L S Z I J = g_at 95 105 L S Z I J := gq_goto e_95_101
theorem e_95_104 : g_Pg 95 104 = ga_push (.int 0) 105 := (congrFun pg_95 104).trans rfl
theorem q_95_104 {L : List Value} {S : List Value} {Z : gZ} {I : gI} {J : gJ} : g_at 95 104 L S Z I J = g_at 95 105 L (.int 0 :: S) Z I J := gq_push e_95_104
theorem e_95_105 : g_Pg 95 105 = ga_zret := (congrFun pg_95 105).trans rfl
theorem q_95_105 {L : List Value} {x : Int32} {Z : gZ} {I : gI} {J : gJ} (h : gB01 x = true) : g_at 95 105 L [.int x] Z I J = some (some (.int x), Z, I, J) := gq_zret e_95_105 h
theorem e_96_0 : g_Pg 96 0 = ga_aload 0 1 := (congrFun pg_96 0).trans rfl
theorem q_96_0 {x : Nat} {S : List Value} {Z : gZ} {I : gI} {J : gJ} : g_at 96 0 [.ref x] S Z I J = g_at 96 1 [.ref x] (.ref x :: S) Z I J := gq_aload e_96_0 rfl
theorem e_96_1 : g_Pg 96 1 = ga_callV 7 95 0 4 := (congrFun pg_96 1).trans rfl
theorem q_96_1 {L : List Value} {a0 : Nat} {Z : gZ} {I : gI} {J : gJ} (h : (gKd Z a0).1 = 7) : g_at 96 1 L [.ref a0] Z I J = (g_at 95 0 [.ref a0, .null] [] Z I J).bind (fun r => g_at 96 4 L (r.1.toList ++ []) r.2.1 r.2.2.1 r.2.2.2) := gq_callV e_96_1 rfl rfl h rfl rfl rfl rfl rfl
theorem e_96_4 : g_Pg 96 4 = ga_if (fun x => decide (x = 0)) 11 7 := (congrFun pg_96 4).trans rfl
theorem q_96_4 {L : List Value} {x : Int32} {S : List Value} {Z : gZ} {I : gI} {J : gJ} : g_at 96 4 L (.int x :: S) Z I J = if x = 0 then g_at 96 11 L S Z I J else g_at 96 7 L S Z I J := gq_if e_96_4 rfl
theorem e_96_7 : g_Pg 96 7 = ga_push (.int (-1)) 8 := (congrFun pg_96 7).trans rfl
theorem q_96_7 {L : List Value} {S : List Value} {Z : gZ} {I : gI} {J : gJ} : g_at 96 7 L S Z I J = g_at 96 8 L (.int (-1) :: S) Z I J := gq_push e_96_7
theorem e_96_8 : g_Pg 96 8 = ga_goto 15 := (congrFun pg_96 8).trans rfl
theorem q_96_8 {L : List Value} {S : List Value} {Z : gZ} {I : gI} {J : gJ} : g_at 96 8 L S Z I J = g_at 96 15 L S Z I J := gq_goto e_96_8
theorem e_96_11 : g_Pg 96 11 = ga_aload 0 12 := (congrFun pg_96 11).trans rfl
theorem q_96_11 {x : Nat} {S : List Value} {Z : gZ} {I : gI} {J : gJ} : g_at 96 11 [.ref x] S Z I J = g_at 96 12 [.ref x] (.ref x :: S) Z I J := gq_aload e_96_11 rfl
theorem e_96_12 : g_Pg 96 12 = ga_getI 7 14 15 := (congrFun pg_96 12).trans rfl
theorem q_96_12 {L : List Value} {a : Nat} {S : List Value} {Z : gZ} {I : gI} {J : gJ} (h : (gKd Z a).1 = 7) : g_at 96 12 L (.ref a :: S) Z I J = g_at 96 15 L (.int (I a 14) :: S) Z I J := gq_getI e_96_12 h
theorem e_96_15 : g_Pg 96 15 = ga_iret := (congrFun pg_96 15).trans rfl
theorem q_96_15 {L : List Value} {x : Int32} {Z : gZ} {I : gI} {J : gJ} : g_at 96 15 L [.int x] Z I J = some (some (.int x), Z, I, J) := gq_iret e_96_15
theorem e_97_0 : g_Pg 97 0 = ga_aload 0 1 := (congrFun pg_97 0).trans rfl
theorem q_97_0 {l1 l2 : Value} {x : Nat} {S : List Value} {Z : gZ} {I : gI} {J : gJ} : g_at 97 0 [.ref x, l1, l2] S Z I J = g_at 97 1 [.ref x, l1, l2] (.ref x :: S) Z I J := gq_aload e_97_0 rfl
theorem e_97_1 : g_Pg 97 1 = ga_getR 7 17 4 := (congrFun pg_97 1).trans rfl
theorem q_97_1 {L : List Value} {a : Nat} {S : List Value} {Z : gZ} {I : gI} {J : gJ} (h : (gKd Z a).1 = 7) (h1 : gRs Z a 17 = true) : g_at 97 1 L (.ref a :: S) Z I J = g_at 97 4 L (.ref (gRq Z a 17) :: S) Z I J := gq_getR e_97_1 h h1
theorem e_97_4 : g_Pg 97 4 = ga_iload 1 5 := (congrFun pg_97 4).trans rfl
theorem q_97_4 {l0 l2 : Value} {x : Int32} {S : List Value} {Z : gZ} {I : gI} {J : gJ} : g_at 97 4 [l0, .int x, l2] S Z I J = g_at 97 5 [l0, .int x, l2] (.int x :: S) Z I J := gq_iload e_97_4 rfl
theorem e_97_5 : g_Pg 97 5 = ga_push (.int 1) 6 := (congrFun pg_97 5).trans rfl
theorem q_97_5 {L : List Value} {S : List Value} {Z : gZ} {I : gI} {J : gJ} : g_at 97 5 L S Z I J = g_at 97 6 L (.int 1 :: S) Z I J := gq_push e_97_5
theorem e_97_6 : g_Pg 97 6 = ga_bin (fun x y => x + y) 7 := (congrFun pg_97 6).trans rfl
theorem q_97_6 {L : List Value} {x y : Int32} {S : List Value} {Z : gZ} {I : gI} {J : gJ} : g_at 97 6 L (.int y :: .int x :: S) Z I J = g_at 97 7 L (.int (x + y) :: S) Z I J := gq_bin e_97_6
theorem e_97_7 : g_Pg 97 7 = ga_iald 8 := (congrFun pg_97 7).trans rfl
theorem q_97_7 {L : List Value} {a : Nat} {i : Int32} {S : List Value} {Z : gZ} {I : gI} {J : gJ} (h : gTg8 (gKd Z a).1 a = true) (h0 : 0 ≤ i) (h1 : i.toNatClampNeg < (gKd Z a).2) : g_at 97 7 L (.int i :: .ref a :: S) Z I J = g_at 97 8 L (.int (I a i.toNatClampNeg) :: S) Z I J := gq_iald e_97_7 h h0 h1
theorem e_97_8 : g_Pg 97 8 = ga_istore 2 9 := (congrFun pg_97 8).trans rfl
theorem q_97_8 {l0 l1 l2 : Value} {x : Int32} {S : List Value} {Z : gZ} {I : gI} {J : gJ} (h : gN1 l1 = true) : g_at 97 8 [l0, l1, l2] (.int x :: S) Z I J = g_at 97 9 [l0, l1, .int x] S Z I J := gq_istore e_97_8 h rfl rfl
theorem e_97_9 : g_Pg 97 9 = ga_aload 0 10 := (congrFun pg_97 9).trans rfl
theorem q_97_9 {l1 l2 : Value} {x : Nat} {S : List Value} {Z : gZ} {I : gI} {J : gJ} : g_at 97 9 [.ref x, l1, l2] S Z I J = g_at 97 10 [.ref x, l1, l2] (.ref x :: S) Z I J := gq_aload e_97_9 rfl
theorem e_97_10 : g_Pg 97 10 = ga_getR 7 17 13 := (congrFun pg_97 10).trans rfl
theorem q_97_10 {L : List Value} {a : Nat} {S : List Value} {Z : gZ} {I : gI} {J : gJ} (h : (gKd Z a).1 = 7) (h1 : gRs Z a 17 = true) : g_at 97 10 L (.ref a :: S) Z I J = g_at 97 13 L (.ref (gRq Z a 17) :: S) Z I J := gq_getR e_97_10 h h1
theorem e_97_13 : g_Pg 97 13 = ga_iload 1 14 := (congrFun pg_97 13).trans rfl
theorem q_97_13 {l0 l2 : Value} {x : Int32} {S : List Value} {Z : gZ} {I : gI} {J : gJ} : g_at 97 13 [l0, .int x, l2] S Z I J = g_at 97 14 [l0, .int x, l2] (.int x :: S) Z I J := gq_iload e_97_13 rfl
theorem e_97_14 : g_Pg 97 14 = ga_iald 15 := (congrFun pg_97 14).trans rfl
theorem q_97_14 {L : List Value} {a : Nat} {i : Int32} {S : List Value} {Z : gZ} {I : gI} {J : gJ} (h : gTg8 (gKd Z a).1 a = true) (h0 : 0 ≤ i) (h1 : i.toNatClampNeg < (gKd Z a).2) : g_at 97 14 L (.int i :: .ref a :: S) Z I J = g_at 97 15 L (.int (I a i.toNatClampNeg) :: S) Z I J := gq_iald e_97_14 h h0 h1
theorem e_97_15 : g_Pg 97 15 = ga_switch 4 [52, 52, 52, 67, 75, 106] 123 := (congrFun pg_97 15).trans rfl
theorem q_97_15 {L : List Value} {x : Int32} {S : List Value} {Z : gZ} {I : gI} {J : gJ} : g_at 97 15 L (.int x :: S) Z I J = if x = 4 then g_at 97 52 L S Z I J else if x = 5 then g_at 97 52 L S Z I J else if x = 6 then g_at 97 52 L S Z I J else if x = 7 then g_at 97 67 L S Z I J else if x = 8 then g_at 97 75 L S Z I J else if x = 9 then g_at 97 106 L S Z I J else g_at 97 123 L S Z I J := (gq_switch e_97_15).trans (gsw_cons (F := fun q => g_at 97 q L S Z I J) (lo := 4) (lo' := 5) (v := 4) rfl rfl (gsw_cons (F := fun q => g_at 97 q L S Z I J) (lo := 5) (lo' := 6) (v := 5) rfl rfl (gsw_cons (F := fun q => g_at 97 q L S Z I J) (lo := 6) (lo' := 7) (v := 6) rfl rfl (gsw_cons (F := fun q => g_at 97 q L S Z I J) (lo := 7) (lo' := 8) (v := 7) rfl rfl (gsw_cons (F := fun q => g_at 97 q L S Z I J) (lo := 8) (lo' := 9) (v := 8) rfl rfl (gsw_cons (F := fun q => g_at 97 q L S Z I J) (lo := 9) (lo' := 10) (v := 9) rfl rfl rfl))))))
theorem e_97_52 : g_Pg 97 52 = ga_aload 0 53 := (congrFun pg_97 52).trans rfl
theorem q_97_52 {l1 l2 : Value} {x : Nat} {S : List Value} {Z : gZ} {I : gI} {J : gJ} : g_at 97 52 [.ref x, l1, l2] S Z I J = g_at 97 53 [.ref x, l1, l2] (.ref x :: S) Z I J := gq_aload e_97_52 rfl
theorem e_97_53 : g_Pg 97 53 = ga_aload 0 54 := (congrFun pg_97 53).trans rfl
theorem q_97_53 {l1 l2 : Value} {x : Nat} {S : List Value} {Z : gZ} {I : gI} {J : gJ} : g_at 97 53 [.ref x, l1, l2] S Z I J = g_at 97 54 [.ref x, l1, l2] (.ref x :: S) Z I J := gq_aload e_97_53 rfl
theorem e_97_54 : g_Pg 97 54 = ga_getR 7 17 57 := (congrFun pg_97 54).trans rfl
theorem q_97_54 {L : List Value} {a : Nat} {S : List Value} {Z : gZ} {I : gI} {J : gJ} (h : (gKd Z a).1 = 7) (h1 : gRs Z a 17 = true) : g_at 97 54 L (.ref a :: S) Z I J = g_at 97 57 L (.ref (gRq Z a 17) :: S) Z I J := gq_getR e_97_54 h h1
theorem e_97_57 : g_Pg 97 57 = ga_iload 1 58 := (congrFun pg_97 57).trans rfl
theorem q_97_57 {l0 l2 : Value} {x : Int32} {S : List Value} {Z : gZ} {I : gI} {J : gJ} : g_at 97 57 [l0, .int x, l2] S Z I J = g_at 97 58 [l0, .int x, l2] (.int x :: S) Z I J := gq_iload e_97_57 rfl
theorem e_97_58 : g_Pg 97 58 = ga_iald 59 := (congrFun pg_97 58).trans rfl
theorem q_97_58 {L : List Value} {a : Nat} {i : Int32} {S : List Value} {Z : gZ} {I : gI} {J : gJ} (h : gTg8 (gKd Z a).1 a = true) (h0 : 0 ≤ i) (h1 : i.toNatClampNeg < (gKd Z a).2) : g_at 97 58 L (.int i :: .ref a :: S) Z I J = g_at 97 59 L (.int (I a i.toNatClampNeg) :: S) Z I J := gq_iald e_97_58 h h0 h1
theorem e_97_59 : g_Pg 97 59 = ga_push (.int 4) 60 := (congrFun pg_97 59).trans rfl
theorem q_97_59 {L : List Value} {S : List Value} {Z : gZ} {I : gI} {J : gJ} : g_at 97 59 L S Z I J = g_at 97 60 L (.int 4 :: S) Z I J := gq_push e_97_59
theorem e_97_60 : g_Pg 97 60 = ga_bin (fun x y => x - y) 61 := (congrFun pg_97 60).trans rfl
theorem q_97_60 {L : List Value} {x y : Int32} {S : List Value} {Z : gZ} {I : gI} {J : gJ} : g_at 97 60 L (.int y :: .int x :: S) Z I J = g_at 97 61 L (.int (x - y) :: S) Z I J := gq_bin e_97_60
theorem e_97_61 : g_Pg 97 61 = ga_putI 7 6 64 := (congrFun pg_97 61).trans rfl
theorem q_97_61 {L : List Value} {a : Nat} {v : Int32} {S : List Value} {Z : gZ} {I : gI} {J : gJ} (h : (gKd Z a).1 = 7) : g_at 97 61 L (.int v :: .ref a :: S) Z I J = g_at 97 64 L S Z (va_up I a (va_up (I a) 6 v)) J := gq_putI e_97_61 h
theorem e_97_64 : g_Pg 97 64 = ga_goto 149 := (congrFun pg_97 64).trans rfl
theorem q_97_64 {L : List Value} {S : List Value} {Z : gZ} {I : gI} {J : gJ} : g_at 97 64 L S Z I J = g_at 97 149 L S Z I J := gq_goto e_97_64
theorem e_97_67 : g_Pg 97 67 = ga_aload 0 68 := (congrFun pg_97 67).trans rfl
theorem q_97_67 {l1 l2 : Value} {x : Nat} {S : List Value} {Z : gZ} {I : gI} {J : gJ} : g_at 97 67 [.ref x, l1, l2] S Z I J = g_at 97 68 [.ref x, l1, l2] (.ref x :: S) Z I J := gq_aload e_97_67 rfl
theorem e_97_68 : g_Pg 97 68 = ga_iload 2 69 := (congrFun pg_97 68).trans rfl
theorem q_97_68 {l0 l1 : Value} {x : Int32} {S : List Value} {Z : gZ} {I : gI} {J : gJ} : g_at 97 68 [l0, l1, .int x] S Z I J = g_at 97 69 [l0, l1, .int x] (.int x :: S) Z I J := gq_iload e_97_68 rfl
theorem e_97_69 : g_Pg 97 69 = ga_callV 7 86 1 72 := (congrFun pg_97 69).trans rfl
theorem q_97_69 {L : List Value} {a0 : Int32} {a1 : Nat} {Z : gZ} {I : gI} {J : gJ} (h : (gKd Z a1).1 = 7) : g_at 97 69 L [.int a0, .ref a1] Z I J = (g_at 86 0 [.ref a1, .int a0, .null] [] Z I J).bind (fun r => g_at 97 72 L (r.1.toList ++ []) r.2.1 r.2.2.1 r.2.2.2) := gq_callV e_97_69 rfl rfl h rfl rfl rfl rfl rfl
theorem e_97_72 : g_Pg 97 72 = ga_goto 149 := (congrFun pg_97 72).trans rfl
theorem q_97_72 {L : List Value} {S : List Value} {Z : gZ} {I : gI} {J : gJ} : g_at 97 72 L S Z I J = g_at 97 149 L S Z I J := gq_goto e_97_72
theorem e_97_75 : g_Pg 97 75 = ga_aload 0 76 := (congrFun pg_97 75).trans rfl
theorem q_97_75 {l1 l2 : Value} {x : Nat} {S : List Value} {Z : gZ} {I : gI} {J : gJ} : g_at 97 75 [.ref x, l1, l2] S Z I J = g_at 97 76 [.ref x, l1, l2] (.ref x :: S) Z I J := gq_aload e_97_75 rfl
theorem e_97_76 : g_Pg 97 76 = ga_getR 7 1 79 := (congrFun pg_97 76).trans rfl
theorem q_97_76 {L : List Value} {a : Nat} {S : List Value} {Z : gZ} {I : gI} {J : gJ} (h : (gKd Z a).1 = 7) (h1 : gRs Z a 1 = true) : g_at 97 76 L (.ref a :: S) Z I J = g_at 97 79 L (.ref (gRq Z a 1) :: S) Z I J := gq_getR e_97_76 h h1
theorem e_97_79 : g_Pg 97 79 = ga_iload 2 80 := (congrFun pg_97 79).trans rfl
theorem q_97_79 {l0 l1 : Value} {x : Int32} {S : List Value} {Z : gZ} {I : gI} {J : gJ} : g_at 97 79 [l0, l1, .int x] S Z I J = g_at 97 80 [l0, l1, .int x] (.int x :: S) Z I J := gq_iload e_97_79 rfl
theorem e_97_80 : g_Pg 97 80 = ga_aload 0 81 := (congrFun pg_97 80).trans rfl
theorem q_97_80 {l1 l2 : Value} {x : Nat} {S : List Value} {Z : gZ} {I : gI} {J : gJ} : g_at 97 80 [.ref x, l1, l2] S Z I J = g_at 97 81 [.ref x, l1, l2] (.ref x :: S) Z I J := gq_aload e_97_80 rfl
theorem e_97_81 : g_Pg 97 81 = ga_getR 7 17 84 := (congrFun pg_97 81).trans rfl
theorem q_97_81 {L : List Value} {a : Nat} {S : List Value} {Z : gZ} {I : gI} {J : gJ} (h : (gKd Z a).1 = 7) (h1 : gRs Z a 17 = true) : g_at 97 81 L (.ref a :: S) Z I J = g_at 97 84 L (.ref (gRq Z a 17) :: S) Z I J := gq_getR e_97_81 h h1
theorem e_97_84 : g_Pg 97 84 = ga_iload 1 85 := (congrFun pg_97 84).trans rfl
theorem q_97_84 {l0 l2 : Value} {x : Int32} {S : List Value} {Z : gZ} {I : gI} {J : gJ} : g_at 97 84 [l0, .int x, l2] S Z I J = g_at 97 85 [l0, .int x, l2] (.int x :: S) Z I J := gq_iload e_97_84 rfl
theorem e_97_85 : g_Pg 97 85 = ga_push (.int 2) 86 := (congrFun pg_97 85).trans rfl
theorem q_97_85 {L : List Value} {S : List Value} {Z : gZ} {I : gI} {J : gJ} : g_at 97 85 L S Z I J = g_at 97 86 L (.int 2 :: S) Z I J := gq_push e_97_85
theorem e_97_86 : g_Pg 97 86 = ga_bin (fun x y => x + y) 87 := (congrFun pg_97 86).trans rfl
theorem q_97_86 {L : List Value} {x y : Int32} {S : List Value} {Z : gZ} {I : gI} {J : gJ} : g_at 97 86 L (.int y :: .int x :: S) Z I J = g_at 97 87 L (.int (x + y) :: S) Z I J := gq_bin e_97_86
theorem e_97_87 : g_Pg 97 87 = ga_iald 88 := (congrFun pg_97 87).trans rfl
theorem q_97_87 {L : List Value} {a : Nat} {i : Int32} {S : List Value} {Z : gZ} {I : gI} {J : gJ} (h : gTg8 (gKd Z a).1 a = true) (h0 : 0 ≤ i) (h1 : i.toNatClampNeg < (gKd Z a).2) : g_at 97 87 L (.int i :: .ref a :: S) Z I J = g_at 97 88 L (.int (I a i.toNatClampNeg) :: S) Z I J := gq_iald e_97_87 h h0 h1
theorem e_97_88 : g_Pg 97 88 = ga_iast 89 := (congrFun pg_97 88).trans rfl
theorem q_97_88 {L : List Value} {a : Nat} {i : Int32} {v : Int32} {S : List Value} {Z : gZ} {I : gI} {J : gJ} (h : (gKd Z a).1 = 8) (h0 : 0 ≤ i) (h1 : i.toNatClampNeg < (gKd Z a).2) : g_at 97 88 L (.int v :: .int i :: .ref a :: S) Z I J = g_at 97 89 L S Z (va_up I a (va_up (I a) i.toNatClampNeg v)) J := gq_iast e_97_88 h h0 h1
theorem e_97_89 : g_Pg 97 89 = ga_aload 0 90 := (congrFun pg_97 89).trans rfl
theorem q_97_89 {l1 l2 : Value} {x : Nat} {S : List Value} {Z : gZ} {I : gI} {J : gJ} : g_at 97 89 [.ref x, l1, l2] S Z I J = g_at 97 90 [.ref x, l1, l2] (.ref x :: S) Z I J := gq_aload e_97_89 rfl
theorem e_97_90 : g_Pg 97 90 = ga_getR 7 2 93 := (congrFun pg_97 90).trans rfl
theorem q_97_90 {L : List Value} {a : Nat} {S : List Value} {Z : gZ} {I : gI} {J : gJ} (h : (gKd Z a).1 = 7) (h1 : gRs Z a 2 = true) : g_at 97 90 L (.ref a :: S) Z I J = g_at 97 93 L (.ref (gRq Z a 2) :: S) Z I J := gq_getR e_97_90 h h1
theorem e_97_93 : g_Pg 97 93 = ga_iload 2 94 := (congrFun pg_97 93).trans rfl
theorem q_97_93 {l0 l1 : Value} {x : Int32} {S : List Value} {Z : gZ} {I : gI} {J : gJ} : g_at 97 93 [l0, l1, .int x] S Z I J = g_at 97 94 [l0, l1, .int x] (.int x :: S) Z I J := gq_iload e_97_93 rfl
theorem e_97_94 : g_Pg 97 94 = ga_aload 0 95 := (congrFun pg_97 94).trans rfl
theorem q_97_94 {l1 l2 : Value} {x : Nat} {S : List Value} {Z : gZ} {I : gI} {J : gJ} : g_at 97 94 [.ref x, l1, l2] S Z I J = g_at 97 95 [.ref x, l1, l2] (.ref x :: S) Z I J := gq_aload e_97_94 rfl
theorem e_97_95 : g_Pg 97 95 = ga_getR 7 17 98 := (congrFun pg_97 95).trans rfl
theorem q_97_95 {L : List Value} {a : Nat} {S : List Value} {Z : gZ} {I : gI} {J : gJ} (h : (gKd Z a).1 = 7) (h1 : gRs Z a 17 = true) : g_at 97 95 L (.ref a :: S) Z I J = g_at 97 98 L (.ref (gRq Z a 17) :: S) Z I J := gq_getR e_97_95 h h1
theorem e_97_98 : g_Pg 97 98 = ga_iload 1 99 := (congrFun pg_97 98).trans rfl
theorem q_97_98 {l0 l2 : Value} {x : Int32} {S : List Value} {Z : gZ} {I : gI} {J : gJ} : g_at 97 98 [l0, .int x, l2] S Z I J = g_at 97 99 [l0, .int x, l2] (.int x :: S) Z I J := gq_iload e_97_98 rfl
theorem e_97_99 : g_Pg 97 99 = ga_push (.int 3) 100 := (congrFun pg_97 99).trans rfl
theorem q_97_99 {L : List Value} {S : List Value} {Z : gZ} {I : gI} {J : gJ} : g_at 97 99 L S Z I J = g_at 97 100 L (.int 3 :: S) Z I J := gq_push e_97_99
theorem e_97_100 : g_Pg 97 100 = ga_bin (fun x y => x + y) 101 := (congrFun pg_97 100).trans rfl
theorem q_97_100 {L : List Value} {x y : Int32} {S : List Value} {Z : gZ} {I : gI} {J : gJ} : g_at 97 100 L (.int y :: .int x :: S) Z I J = g_at 97 101 L (.int (x + y) :: S) Z I J := gq_bin e_97_100
theorem e_97_101 : g_Pg 97 101 = ga_iald 102 := (congrFun pg_97 101).trans rfl
theorem q_97_101 {L : List Value} {a : Nat} {i : Int32} {S : List Value} {Z : gZ} {I : gI} {J : gJ} (h : gTg8 (gKd Z a).1 a = true) (h0 : 0 ≤ i) (h1 : i.toNatClampNeg < (gKd Z a).2) : g_at 97 101 L (.int i :: .ref a :: S) Z I J = g_at 97 102 L (.int (I a i.toNatClampNeg) :: S) Z I J := gq_iald e_97_101 h h0 h1
theorem e_97_102 : g_Pg 97 102 = ga_iast 103 := (congrFun pg_97 102).trans rfl
theorem q_97_102 {L : List Value} {a : Nat} {i : Int32} {v : Int32} {S : List Value} {Z : gZ} {I : gI} {J : gJ} (h : (gKd Z a).1 = 8) (h0 : 0 ≤ i) (h1 : i.toNatClampNeg < (gKd Z a).2) : g_at 97 102 L (.int v :: .int i :: .ref a :: S) Z I J = g_at 97 103 L S Z (va_up I a (va_up (I a) i.toNatClampNeg v)) J := gq_iast e_97_102 h h0 h1
theorem e_97_103 : g_Pg 97 103 = ga_goto 149 := (congrFun pg_97 103).trans rfl
theorem q_97_103 {L : List Value} {S : List Value} {Z : gZ} {I : gI} {J : gJ} : g_at 97 103 L S Z I J = g_at 97 149 L S Z I J := gq_goto e_97_103
theorem e_97_106 : g_Pg 97 106 = ga_aload 0 107 := (congrFun pg_97 106).trans rfl
theorem q_97_106 {l1 l2 : Value} {x : Nat} {S : List Value} {Z : gZ} {I : gI} {J : gJ} : g_at 97 106 [.ref x, l1, l2] S Z I J = g_at 97 107 [.ref x, l1, l2] (.ref x :: S) Z I J := gq_aload e_97_106 rfl
theorem e_97_107 : g_Pg 97 107 = ga_getR 7 1 110 := (congrFun pg_97 107).trans rfl
theorem q_97_107 {L : List Value} {a : Nat} {S : List Value} {Z : gZ} {I : gI} {J : gJ} (h : (gKd Z a).1 = 7) (h1 : gRs Z a 1 = true) : g_at 97 107 L (.ref a :: S) Z I J = g_at 97 110 L (.ref (gRq Z a 1) :: S) Z I J := gq_getR e_97_107 h h1
theorem e_97_110 : g_Pg 97 110 = ga_iload 2 111 := (congrFun pg_97 110).trans rfl
theorem q_97_110 {l0 l1 : Value} {x : Int32} {S : List Value} {Z : gZ} {I : gI} {J : gJ} : g_at 97 110 [l0, l1, .int x] S Z I J = g_at 97 111 [l0, l1, .int x] (.int x :: S) Z I J := gq_iload e_97_110 rfl
theorem e_97_111 : g_Pg 97 111 = ga_push (.int (-1)) 112 := (congrFun pg_97 111).trans rfl
theorem q_97_111 {L : List Value} {S : List Value} {Z : gZ} {I : gI} {J : gJ} : g_at 97 111 L S Z I J = g_at 97 112 L (.int (-1) :: S) Z I J := gq_push e_97_111
theorem e_97_112 : g_Pg 97 112 = ga_iast 113 := (congrFun pg_97 112).trans rfl
theorem q_97_112 {L : List Value} {a : Nat} {i : Int32} {v : Int32} {S : List Value} {Z : gZ} {I : gI} {J : gJ} (h : (gKd Z a).1 = 8) (h0 : 0 ≤ i) (h1 : i.toNatClampNeg < (gKd Z a).2) : g_at 97 112 L (.int v :: .int i :: .ref a :: S) Z I J = g_at 97 113 L S Z (va_up I a (va_up (I a) i.toNatClampNeg v)) J := gq_iast e_97_112 h h0 h1
theorem e_97_113 : g_Pg 97 113 = ga_aload 0 114 := (congrFun pg_97 113).trans rfl
theorem q_97_113 {l1 l2 : Value} {x : Nat} {S : List Value} {Z : gZ} {I : gI} {J : gJ} : g_at 97 113 [.ref x, l1, l2] S Z I J = g_at 97 114 [.ref x, l1, l2] (.ref x :: S) Z I J := gq_aload e_97_113 rfl
theorem e_97_114 : g_Pg 97 114 = ga_getR 7 2 117 := (congrFun pg_97 114).trans rfl
theorem q_97_114 {L : List Value} {a : Nat} {S : List Value} {Z : gZ} {I : gI} {J : gJ} (h : (gKd Z a).1 = 7) (h1 : gRs Z a 2 = true) : g_at 97 114 L (.ref a :: S) Z I J = g_at 97 117 L (.ref (gRq Z a 2) :: S) Z I J := gq_getR e_97_114 h h1
theorem e_97_117 : g_Pg 97 117 = ga_iload 2 118 := (congrFun pg_97 117).trans rfl
theorem q_97_117 {l0 l1 : Value} {x : Int32} {S : List Value} {Z : gZ} {I : gI} {J : gJ} : g_at 97 117 [l0, l1, .int x] S Z I J = g_at 97 118 [l0, l1, .int x] (.int x :: S) Z I J := gq_iload e_97_117 rfl
theorem e_97_118 : g_Pg 97 118 = ga_push (.int 0) 119 := (congrFun pg_97 118).trans rfl
theorem q_97_118 {L : List Value} {S : List Value} {Z : gZ} {I : gI} {J : gJ} : g_at 97 118 L S Z I J = g_at 97 119 L (.int 0 :: S) Z I J := gq_push e_97_118
theorem e_97_119 : g_Pg 97 119 = ga_iast 120 := (congrFun pg_97 119).trans rfl
theorem q_97_119 {L : List Value} {a : Nat} {i : Int32} {v : Int32} {S : List Value} {Z : gZ} {I : gI} {J : gJ} (h : (gKd Z a).1 = 8) (h0 : 0 ≤ i) (h1 : i.toNatClampNeg < (gKd Z a).2) : g_at 97 119 L (.int v :: .int i :: .ref a :: S) Z I J = g_at 97 120 L S Z (va_up I a (va_up (I a) i.toNatClampNeg v)) J := gq_iast e_97_119 h h0 h1
theorem e_97_120 : g_Pg 97 120 = ga_goto 149 := (congrFun pg_97 120).trans rfl
theorem q_97_120 {L : List Value} {S : List Value} {Z : gZ} {I : gI} {J : gJ} : g_at 97 120 L S Z I J = g_at 97 149 L S Z I J := gq_goto e_97_120
theorem e_97_123 : g_Pg 97 123 = ga_aload 0 124 := (congrFun pg_97 123).trans rfl
theorem q_97_123 {l1 l2 : Value} {x : Nat} {S : List Value} {Z : gZ} {I : gI} {J : gJ} : g_at 97 123 [.ref x, l1, l2] S Z I J = g_at 97 124 [.ref x, l1, l2] (.ref x :: S) Z I J := gq_aload e_97_123 rfl
theorem e_97_124 : g_Pg 97 124 = ga_getR 7 3 127 := (congrFun pg_97 124).trans rfl
theorem q_97_124 {L : List Value} {a : Nat} {S : List Value} {Z : gZ} {I : gI} {J : gJ} (h : (gKd Z a).1 = 7) (h1 : gRs Z a 3 = true) : g_at 97 124 L (.ref a :: S) Z I J = g_at 97 127 L (.ref (gRq Z a 3) :: S) Z I J := gq_getR e_97_124 h h1
theorem e_97_127 : g_Pg 97 127 = ga_iload 2 128 := (congrFun pg_97 127).trans rfl
theorem q_97_127 {l0 l1 : Value} {x : Int32} {S : List Value} {Z : gZ} {I : gI} {J : gJ} : g_at 97 127 [l0, l1, .int x] S Z I J = g_at 97 128 [l0, l1, .int x] (.int x :: S) Z I J := gq_iload e_97_127 rfl
theorem e_97_128 : g_Pg 97 128 = ga_aload 0 129 := (congrFun pg_97 128).trans rfl
theorem q_97_128 {l1 l2 : Value} {x : Nat} {S : List Value} {Z : gZ} {I : gI} {J : gJ} : g_at 97 128 [.ref x, l1, l2] S Z I J = g_at 97 129 [.ref x, l1, l2] (.ref x :: S) Z I J := gq_aload e_97_128 rfl
theorem e_97_129 : g_Pg 97 129 = ga_getR 7 17 132 := (congrFun pg_97 129).trans rfl
theorem q_97_129 {L : List Value} {a : Nat} {S : List Value} {Z : gZ} {I : gI} {J : gJ} (h : (gKd Z a).1 = 7) (h1 : gRs Z a 17 = true) : g_at 97 129 L (.ref a :: S) Z I J = g_at 97 132 L (.ref (gRq Z a 17) :: S) Z I J := gq_getR e_97_129 h h1
theorem e_97_132 : g_Pg 97 132 = ga_iload 1 133 := (congrFun pg_97 132).trans rfl
theorem q_97_132 {l0 l2 : Value} {x : Int32} {S : List Value} {Z : gZ} {I : gI} {J : gJ} : g_at 97 132 [l0, .int x, l2] S Z I J = g_at 97 133 [l0, .int x, l2] (.int x :: S) Z I J := gq_iload e_97_132 rfl
theorem e_97_133 : g_Pg 97 133 = ga_iald 134 := (congrFun pg_97 133).trans rfl
theorem q_97_133 {L : List Value} {a : Nat} {i : Int32} {S : List Value} {Z : gZ} {I : gI} {J : gJ} (h : gTg8 (gKd Z a).1 a = true) (h0 : 0 ≤ i) (h1 : i.toNatClampNeg < (gKd Z a).2) : g_at 97 133 L (.int i :: .ref a :: S) Z I J = g_at 97 134 L (.int (I a i.toNatClampNeg) :: S) Z I J := gq_iald e_97_133 h h0 h1
theorem e_97_134 : g_Pg 97 134 = ga_iast 135 := (congrFun pg_97 134).trans rfl
theorem q_97_134 {L : List Value} {a : Nat} {i : Int32} {v : Int32} {S : List Value} {Z : gZ} {I : gI} {J : gJ} (h : (gKd Z a).1 = 8) (h0 : 0 ≤ i) (h1 : i.toNatClampNeg < (gKd Z a).2) : g_at 97 134 L (.int v :: .int i :: .ref a :: S) Z I J = g_at 97 135 L S Z (va_up I a (va_up (I a) i.toNatClampNeg v)) J := gq_iast e_97_134 h h0 h1
theorem e_97_135 : g_Pg 97 135 = ga_aload 0 136 := (congrFun pg_97 135).trans rfl
theorem q_97_135 {l1 l2 : Value} {x : Nat} {S : List Value} {Z : gZ} {I : gI} {J : gJ} : g_at 97 135 [.ref x, l1, l2] S Z I J = g_at 97 136 [.ref x, l1, l2] (.ref x :: S) Z I J := gq_aload e_97_135 rfl
theorem e_97_136 : g_Pg 97 136 = ga_getR 7 4 139 := (congrFun pg_97 136).trans rfl
theorem q_97_136 {L : List Value} {a : Nat} {S : List Value} {Z : gZ} {I : gI} {J : gJ} (h : (gKd Z a).1 = 7) (h1 : gRs Z a 4 = true) : g_at 97 136 L (.ref a :: S) Z I J = g_at 97 139 L (.ref (gRq Z a 4) :: S) Z I J := gq_getR e_97_136 h h1
theorem e_97_139 : g_Pg 97 139 = ga_iload 2 140 := (congrFun pg_97 139).trans rfl
theorem q_97_139 {l0 l1 : Value} {x : Int32} {S : List Value} {Z : gZ} {I : gI} {J : gJ} : g_at 97 139 [l0, l1, .int x] S Z I J = g_at 97 140 [l0, l1, .int x] (.int x :: S) Z I J := gq_iload e_97_139 rfl
theorem e_97_140 : g_Pg 97 140 = ga_aload 0 141 := (congrFun pg_97 140).trans rfl
theorem q_97_140 {l1 l2 : Value} {x : Nat} {S : List Value} {Z : gZ} {I : gI} {J : gJ} : g_at 97 140 [.ref x, l1, l2] S Z I J = g_at 97 141 [.ref x, l1, l2] (.ref x :: S) Z I J := gq_aload e_97_140 rfl
theorem e_97_141 : g_Pg 97 141 = ga_getR 7 17 144 := (congrFun pg_97 141).trans rfl
theorem q_97_141 {L : List Value} {a : Nat} {S : List Value} {Z : gZ} {I : gI} {J : gJ} (h : (gKd Z a).1 = 7) (h1 : gRs Z a 17 = true) : g_at 97 141 L (.ref a :: S) Z I J = g_at 97 144 L (.ref (gRq Z a 17) :: S) Z I J := gq_getR e_97_141 h h1
theorem e_97_144 : g_Pg 97 144 = ga_iload 1 145 := (congrFun pg_97 144).trans rfl
theorem q_97_144 {l0 l2 : Value} {x : Int32} {S : List Value} {Z : gZ} {I : gI} {J : gJ} : g_at 97 144 [l0, .int x, l2] S Z I J = g_at 97 145 [l0, .int x, l2] (.int x :: S) Z I J := gq_iload e_97_144 rfl
theorem e_97_145 : g_Pg 97 145 = ga_push (.int 2) 146 := (congrFun pg_97 145).trans rfl
theorem q_97_145 {L : List Value} {S : List Value} {Z : gZ} {I : gI} {J : gJ} : g_at 97 145 L S Z I J = g_at 97 146 L (.int 2 :: S) Z I J := gq_push e_97_145
theorem e_97_146 : g_Pg 97 146 = ga_bin (fun x y => x + y) 147 := (congrFun pg_97 146).trans rfl
theorem q_97_146 {L : List Value} {x y : Int32} {S : List Value} {Z : gZ} {I : gI} {J : gJ} : g_at 97 146 L (.int y :: .int x :: S) Z I J = g_at 97 147 L (.int (x + y) :: S) Z I J := gq_bin e_97_146
theorem e_97_147 : g_Pg 97 147 = ga_iald 148 := (congrFun pg_97 147).trans rfl
theorem q_97_147 {L : List Value} {a : Nat} {i : Int32} {S : List Value} {Z : gZ} {I : gI} {J : gJ} (h : gTg8 (gKd Z a).1 a = true) (h0 : 0 ≤ i) (h1 : i.toNatClampNeg < (gKd Z a).2) : g_at 97 147 L (.int i :: .ref a :: S) Z I J = g_at 97 148 L (.int (I a i.toNatClampNeg) :: S) Z I J := gq_iald e_97_147 h h0 h1
theorem e_97_148 : g_Pg 97 148 = ga_iast 149 := (congrFun pg_97 148).trans rfl
theorem q_97_148 {L : List Value} {a : Nat} {i : Int32} {v : Int32} {S : List Value} {Z : gZ} {I : gI} {J : gJ} (h : (gKd Z a).1 = 8) (h0 : 0 ≤ i) (h1 : i.toNatClampNeg < (gKd Z a).2) : g_at 97 148 L (.int v :: .int i :: .ref a :: S) Z I J = g_at 97 149 L S Z (va_up I a (va_up (I a) i.toNatClampNeg v)) J := gq_iast e_97_148 h h0 h1
theorem e_97_149 : g_Pg 97 149 = ga_vret := (congrFun pg_97 149).trans rfl
theorem q_97_149 {L : List Value} {Z : gZ} {I : gI} {J : gJ} : g_at 97 149 L [] Z I J = some (none, Z, I, J) := gq_vret e_97_149
theorem e_98_0 : g_Pg 98 0 = ga_aload 0 1 := (congrFun pg_98 0).trans rfl
theorem q_98_0 {l1 : Value} {x : Nat} {S : List Value} {Z : gZ} {I : gI} {J : gJ} : g_at 98 0 [.ref x, l1] S Z I J = g_at 98 1 [.ref x, l1] (.ref x :: S) Z I J := gq_aload e_98_0 rfl
theorem e_98_1 : g_Pg 98 1 = ga_callV 7 95 0 4 := (congrFun pg_98 1).trans rfl
theorem q_98_1 {L : List Value} {a0 : Nat} {Z : gZ} {I : gI} {J : gJ} (h : (gKd Z a0).1 = 7) : g_at 98 1 L [.ref a0] Z I J = (g_at 95 0 [.ref a0, .null] [] Z I J).bind (fun r => g_at 98 4 L (r.1.toList ++ []) r.2.1 r.2.2.1 r.2.2.2) := gq_callV e_98_1 rfl rfl h rfl rfl rfl rfl rfl
theorem e_98_4 : g_Pg 98 4 = ga_if (fun x => decide (¬ x = 0)) 10 7 := (congrFun pg_98 4).trans rfl
theorem q_98_4 {L : List Value} {x : Int32} {S : List Value} {Z : gZ} {I : gI} {J : gJ} : g_at 98 4 L (.int x :: S) Z I J = if ¬ x = 0 then g_at 98 10 L S Z I J else g_at 98 7 L S Z I J := gq_if e_98_4 rfl
theorem e_98_7 : g_Pg 98 7 = ga_push (.int (-4)) 9 := (congrFun pg_98 7).trans rfl
theorem q_98_7 {L : List Value} {S : List Value} {Z : gZ} {I : gI} {J : gJ} : g_at 98 7 L S Z I J = g_at 98 9 L (.int (-4) :: S) Z I J := gq_push e_98_7
theorem e_98_9 : g_Pg 98 9 = ga_iret := (congrFun pg_98 9).trans rfl
theorem q_98_9 {L : List Value} {x : Int32} {Z : gZ} {I : gI} {J : gJ} : g_at 98 9 L [.int x] Z I J = some (some (.int x), Z, I, J) := gq_iret e_98_9
theorem e_98_10 : g_Pg 98 10 = ga_push (.int 0) 11 := (congrFun pg_98 10).trans rfl
theorem q_98_10 {L : List Value} {S : List Value} {Z : gZ} {I : gI} {J : gJ} : g_at 98 10 L S Z I J = g_at 98 11 L (.int 0 :: S) Z I J := gq_push e_98_10
theorem e_98_11 : g_Pg 98 11 = ga_istore 1 12 := (congrFun pg_98 11).trans rfl
theorem q_98_11 {l0 l1 : Value} {x : Int32} {S : List Value} {Z : gZ} {I : gI} {J : gJ} (h : gN1 l0 = true) : g_at 98 11 [l0, l1] (.int x :: S) Z I J = g_at 98 12 [l0, .int x] S Z I J := gq_istore e_98_11 h rfl rfl
theorem e_98_12 : g_Pg 98 12 = ga_iload 1 13 := (congrFun pg_98 12).trans rfl
theorem q_98_12 {l0 : Value} {x : Int32} {S : List Value} {Z : gZ} {I : gI} {J : gJ} : g_at 98 12 [l0, .int x] S Z I J = g_at 98 13 [l0, .int x] (.int x :: S) Z I J := gq_iload e_98_12 rfl
theorem e_98_13 : g_Pg 98 13 = ga_aload 0 14 := (congrFun pg_98 13).trans rfl
theorem q_98_13 {l1 : Value} {x : Nat} {S : List Value} {Z : gZ} {I : gI} {J : gJ} : g_at 98 13 [.ref x, l1] S Z I J = g_at 98 14 [.ref x, l1] (.ref x :: S) Z I J := gq_aload e_98_13 rfl
theorem e_98_14 : g_Pg 98 14 = ga_getI 7 15 17 := (congrFun pg_98 14).trans rfl
theorem q_98_14 {L : List Value} {a : Nat} {S : List Value} {Z : gZ} {I : gI} {J : gJ} (h : (gKd Z a).1 = 7) : g_at 98 14 L (.ref a :: S) Z I J = g_at 98 17 L (.int (I a 15) :: S) Z I J := gq_getI e_98_14 h
theorem e_98_17 : g_Pg 98 17 = ga_cmp (fun x y => decide (y ≤ x)) 33 20 := (congrFun pg_98 17).trans rfl
theorem q_98_17 {L : List Value} {x y : Int32} {S : List Value} {Z : gZ} {I : gI} {J : gJ} : g_at 98 17 L (.int y :: .int x :: S) Z I J = if y ≤ x then g_at 98 33 L S Z I J else g_at 98 20 L S Z I J := gq_cmp e_98_17 rfl
theorem e_98_20 : g_Pg 98 20 = ga_aload 0 21 := (congrFun pg_98 20).trans rfl
theorem q_98_20 {l1 : Value} {x : Nat} {S : List Value} {Z : gZ} {I : gI} {J : gJ} : g_at 98 20 [.ref x, l1] S Z I J = g_at 98 21 [.ref x, l1] (.ref x :: S) Z I J := gq_aload e_98_20 rfl
theorem e_98_21 : g_Pg 98 21 = ga_push (.int 4) 22 := (congrFun pg_98 21).trans rfl
theorem q_98_21 {L : List Value} {S : List Value} {Z : gZ} {I : gI} {J : gJ} : g_at 98 21 L S Z I J = g_at 98 22 L (.int 4 :: S) Z I J := gq_push e_98_21
theorem e_98_22 : g_Pg 98 22 = ga_iload 1 23 := (congrFun pg_98 22).trans rfl
theorem q_98_22 {l0 : Value} {x : Int32} {S : List Value} {Z : gZ} {I : gI} {J : gJ} : g_at 98 22 [l0, .int x] S Z I J = g_at 98 23 [l0, .int x] (.int x :: S) Z I J := gq_iload e_98_22 rfl
theorem e_98_23 : g_Pg 98 23 = ga_bin (fun x y => x * y) 24 := (congrFun pg_98 23).trans rfl
theorem q_98_23 {L : List Value} {x y : Int32} {S : List Value} {Z : gZ} {I : gI} {J : gJ} : g_at 98 23 L (.int y :: .int x :: S) Z I J = g_at 98 24 L (.int (x * y) :: S) Z I J := gq_bin e_98_23
theorem e_98_24 : g_Pg 98 24 = ga_callV 7 97 1 27 := (congrFun pg_98 24).trans rfl
theorem q_98_24 {L : List Value} {a0 : Int32} {a1 : Nat} {Z : gZ} {I : gI} {J : gJ} (h : (gKd Z a1).1 = 7) : g_at 98 24 L [.int a0, .ref a1] Z I J = (g_at 97 0 [.ref a1, .int a0, .null] [] Z I J).bind (fun r => g_at 98 27 L (r.1.toList ++ []) r.2.1 r.2.2.1 r.2.2.2) := gq_callV e_98_24 rfl rfl h rfl rfl rfl rfl rfl
theorem e_98_27 : g_Pg 98 27 = ga_iinc 1 1 30 := (congrFun pg_98 27).trans rfl
theorem q_98_27 {l0 : Value} {x : Int32} {S : List Value} {Z : gZ} {I : gI} {J : gJ} (h : gN1 l0 = true) : g_at 98 27 [l0, .int x] S Z I J = g_at 98 30 [l0, .int (x + 1)] S Z I J := gq_iinc e_98_27 rfl h rfl
theorem e_98_30 : g_Pg 98 30 = ga_goto 12 := (congrFun pg_98 30).trans rfl
theorem q_98_30 {L : List Value} {S : List Value} {Z : gZ} {I : gI} {J : gJ} : g_at 98 30 L S Z I J = g_at 98 12 L S Z I J := gq_goto e_98_30
theorem e_98_33 : g_Pg 98 33 = ga_aload 0 34 := (congrFun pg_98 33).trans rfl
theorem q_98_33 {l1 : Value} {x : Nat} {S : List Value} {Z : gZ} {I : gI} {J : gJ} : g_at 98 33 [.ref x, l1] S Z I J = g_at 98 34 [.ref x, l1] (.ref x :: S) Z I J := gq_aload e_98_33 rfl
theorem e_98_34 : g_Pg 98 34 = ga_push (.int 0) 35 := (congrFun pg_98 34).trans rfl
theorem q_98_34 {L : List Value} {S : List Value} {Z : gZ} {I : gI} {J : gJ} : g_at 98 34 L S Z I J = g_at 98 35 L (.int 0 :: S) Z I J := gq_push e_98_34
theorem e_98_35 : g_Pg 98 35 = ga_putI 7 7 38 := (congrFun pg_98 35).trans rfl
theorem q_98_35 {L : List Value} {a : Nat} {v : Int32} {S : List Value} {Z : gZ} {I : gI} {J : gJ} (h : (gKd Z a).1 = 7) : g_at 98 35 L (.int v :: .ref a :: S) Z I J = g_at 98 38 L S Z (va_up I a (va_up (I a) 7 v)) J := gq_putI e_98_35 h
theorem e_98_38 : g_Pg 98 38 = ga_push (.int 0) 39 := (congrFun pg_98 38).trans rfl
theorem q_98_38 {L : List Value} {S : List Value} {Z : gZ} {I : gI} {J : gJ} : g_at 98 38 L S Z I J = g_at 98 39 L (.int 0 :: S) Z I J := gq_push e_98_38
theorem e_98_39 : g_Pg 98 39 = ga_istore 1 40 := (congrFun pg_98 39).trans rfl
theorem q_98_39 {l0 l1 : Value} {x : Int32} {S : List Value} {Z : gZ} {I : gI} {J : gJ} (h : gN1 l0 = true) : g_at 98 39 [l0, l1] (.int x :: S) Z I J = g_at 98 40 [l0, .int x] S Z I J := gq_istore e_98_39 h rfl rfl
theorem e_98_40 : g_Pg 98 40 = ga_iload 1 41 := (congrFun pg_98 40).trans rfl
theorem q_98_40 {l0 : Value} {x : Int32} {S : List Value} {Z : gZ} {I : gI} {J : gJ} : g_at 98 40 [l0, .int x] S Z I J = g_at 98 41 [l0, .int x] (.int x :: S) Z I J := gq_iload e_98_40 rfl
theorem e_98_41 : g_Pg 98 41 = ga_push (.int 10) 43 := (congrFun pg_98 41).trans rfl
theorem q_98_41 {L : List Value} {S : List Value} {Z : gZ} {I : gI} {J : gJ} : g_at 98 41 L S Z I J = g_at 98 43 L (.int 10 :: S) Z I J := gq_push e_98_41
theorem e_98_43 : g_Pg 98 43 = ga_cmp (fun x y => decide (y ≤ x)) 66 46 := (congrFun pg_98 43).trans rfl
theorem q_98_43 {L : List Value} {x y : Int32} {S : List Value} {Z : gZ} {I : gI} {J : gJ} : g_at 98 43 L (.int y :: .int x :: S) Z I J = if y ≤ x then g_at 98 66 L S Z I J else g_at 98 46 L S Z I J := gq_cmp e_98_43 rfl
theorem e_98_46 : g_Pg 98 46 = ga_aload 0 47 := (congrFun pg_98 46).trans rfl
theorem q_98_46 {l1 : Value} {x : Nat} {S : List Value} {Z : gZ} {I : gI} {J : gJ} : g_at 98 46 [.ref x, l1] S Z I J = g_at 98 47 [.ref x, l1] (.ref x :: S) Z I J := gq_aload e_98_46 rfl
theorem e_98_47 : g_Pg 98 47 = ga_getR 7 18 50 := (congrFun pg_98 47).trans rfl
theorem q_98_47 {L : List Value} {a : Nat} {S : List Value} {Z : gZ} {I : gI} {J : gJ} (h : (gKd Z a).1 = 7) (h1 : gRs Z a 18 = true) : g_at 98 47 L (.ref a :: S) Z I J = g_at 98 50 L (.ref (gRq Z a 18) :: S) Z I J := gq_getR e_98_47 h h1
theorem e_98_50 : g_Pg 98 50 = ga_iload 1 51 := (congrFun pg_98 50).trans rfl
theorem q_98_50 {l0 : Value} {x : Int32} {S : List Value} {Z : gZ} {I : gI} {J : gJ} : g_at 98 50 [l0, .int x] S Z I J = g_at 98 51 [l0, .int x] (.int x :: S) Z I J := gq_iload e_98_50 rfl
theorem e_98_51 : g_Pg 98 51 = ga_push (.long 0) 52 := (congrFun pg_98 51).trans rfl
theorem q_98_51 {L : List Value} {S : List Value} {Z : gZ} {I : gI} {J : gJ} : g_at 98 51 L S Z I J = g_at 98 52 L (.long 0 :: S) Z I J := gq_push e_98_51
theorem e_98_52 : g_Pg 98 52 = ga_last 53 := (congrFun pg_98 52).trans rfl
theorem q_98_52 {L : List Value} {a : Nat} {i : Int32} {v : Int64} {S : List Value} {Z : gZ} {I : gI} {J : gJ} (h : (gKd Z a).1 = 10) (h0 : 0 ≤ i) (h1 : i.toNatClampNeg < (gKd Z a).2) : g_at 98 52 L (.long v :: .int i :: .ref a :: S) Z I J = g_at 98 53 L S Z I (va_up J a (va_up (J a) i.toNatClampNeg v)) := gq_last e_98_52 h h0 h1
theorem e_98_53 : g_Pg 98 53 = ga_aload 0 54 := (congrFun pg_98 53).trans rfl
theorem q_98_53 {l1 : Value} {x : Nat} {S : List Value} {Z : gZ} {I : gI} {J : gJ} : g_at 98 53 [.ref x, l1] S Z I J = g_at 98 54 [.ref x, l1] (.ref x :: S) Z I J := gq_aload e_98_53 rfl
theorem e_98_54 : g_Pg 98 54 = ga_getR 7 19 57 := (congrFun pg_98 54).trans rfl
theorem q_98_54 {L : List Value} {a : Nat} {S : List Value} {Z : gZ} {I : gI} {J : gJ} (h : (gKd Z a).1 = 7) (h1 : gRs Z a 19 = true) : g_at 98 54 L (.ref a :: S) Z I J = g_at 98 57 L (.ref (gRq Z a 19) :: S) Z I J := gq_getR e_98_54 h h1
theorem e_98_57 : g_Pg 98 57 = ga_iload 1 58 := (congrFun pg_98 57).trans rfl
theorem q_98_57 {l0 : Value} {x : Int32} {S : List Value} {Z : gZ} {I : gI} {J : gJ} : g_at 98 57 [l0, .int x] S Z I J = g_at 98 58 [l0, .int x] (.int x :: S) Z I J := gq_iload e_98_57 rfl
theorem e_98_58 : g_Pg 98 58 = ga_push (.int 0) 59 := (congrFun pg_98 58).trans rfl
theorem q_98_58 {L : List Value} {S : List Value} {Z : gZ} {I : gI} {J : gJ} : g_at 98 58 L S Z I J = g_at 98 59 L (.int 0 :: S) Z I J := gq_push e_98_58
theorem e_98_59 : g_Pg 98 59 = ga_iast 60 := (congrFun pg_98 59).trans rfl
theorem q_98_59 {L : List Value} {a : Nat} {i : Int32} {v : Int32} {S : List Value} {Z : gZ} {I : gI} {J : gJ} (h : (gKd Z a).1 = 8) (h0 : 0 ≤ i) (h1 : i.toNatClampNeg < (gKd Z a).2) : g_at 98 59 L (.int v :: .int i :: .ref a :: S) Z I J = g_at 98 60 L S Z (va_up I a (va_up (I a) i.toNatClampNeg v)) J := gq_iast e_98_59 h h0 h1
theorem e_98_60 : g_Pg 98 60 = ga_iinc 1 1 63 := (congrFun pg_98 60).trans rfl
theorem q_98_60 {l0 : Value} {x : Int32} {S : List Value} {Z : gZ} {I : gI} {J : gJ} (h : gN1 l0 = true) : g_at 98 60 [l0, .int x] S Z I J = g_at 98 63 [l0, .int (x + 1)] S Z I J := gq_iinc e_98_60 rfl h rfl
theorem e_98_63 : g_Pg 98 63 = ga_goto 40 := (congrFun pg_98 63).trans rfl
theorem q_98_63 {L : List Value} {S : List Value} {Z : gZ} {I : gI} {J : gJ} : g_at 98 63 L S Z I J = g_at 98 40 L S Z I J := gq_goto e_98_63
theorem e_98_66 : g_Pg 98 66 = ga_aload 0 67 := (congrFun pg_98 66).trans rfl
theorem q_98_66 {l1 : Value} {x : Nat} {S : List Value} {Z : gZ} {I : gI} {J : gJ} : g_at 98 66 [.ref x, l1] S Z I J = g_at 98 67 [.ref x, l1] (.ref x :: S) Z I J := gq_aload e_98_66 rfl
theorem e_98_67 : g_Pg 98 67 = ga_aload 0 68 := (congrFun pg_98 67).trans rfl
theorem q_98_67 {l1 : Value} {x : Nat} {S : List Value} {Z : gZ} {I : gI} {J : gJ} : g_at 98 67 [.ref x, l1] S Z I J = g_at 98 68 [.ref x, l1] (.ref x :: S) Z I J := gq_aload e_98_67 rfl
theorem e_98_68 : g_Pg 98 68 = ga_getI 7 6 71 := (congrFun pg_98 68).trans rfl
theorem q_98_68 {L : List Value} {a : Nat} {S : List Value} {Z : gZ} {I : gI} {J : gJ} (h : (gKd Z a).1 = 7) : g_at 98 68 L (.ref a :: S) Z I J = g_at 98 71 L (.int (I a 6) :: S) Z I J := gq_getI e_98_68 h
theorem e_98_71 : g_Pg 98 71 = ga_putI 7 5 74 := (congrFun pg_98 71).trans rfl
theorem q_98_71 {L : List Value} {a : Nat} {v : Int32} {S : List Value} {Z : gZ} {I : gI} {J : gJ} (h : (gKd Z a).1 = 7) : g_at 98 71 L (.int v :: .ref a :: S) Z I J = g_at 98 74 L S Z (va_up I a (va_up (I a) 5 v)) J := gq_putI e_98_71 h
theorem e_98_74 : g_Pg 98 74 = ga_aload 0 75 := (congrFun pg_98 74).trans rfl
theorem q_98_74 {l1 : Value} {x : Nat} {S : List Value} {Z : gZ} {I : gI} {J : gJ} : g_at 98 74 [.ref x, l1] S Z I J = g_at 98 75 [.ref x, l1] (.ref x :: S) Z I J := gq_aload e_98_74 rfl
theorem e_98_75 : g_Pg 98 75 = ga_push (.int 0) 76 := (congrFun pg_98 75).trans rfl
theorem q_98_75 {L : List Value} {S : List Value} {Z : gZ} {I : gI} {J : gJ} : g_at 98 75 L S Z I J = g_at 98 76 L (.int 0 :: S) Z I J := gq_push e_98_75
theorem e_98_76 : g_Pg 98 76 = ga_putI 7 20 79 := (congrFun pg_98 76).trans rfl
theorem q_98_76 {L : List Value} {a : Nat} {v : Int32} {S : List Value} {Z : gZ} {I : gI} {J : gJ} (h : (gKd Z a).1 = 7) : g_at 98 76 L (.int v :: .ref a :: S) Z I J = g_at 98 79 L S Z (va_up I a (va_up (I a) 20 v)) J := gq_putI e_98_76 h
theorem e_98_79 : g_Pg 98 79 = ga_aload 0 80 := (congrFun pg_98 79).trans rfl
theorem q_98_79 {l1 : Value} {x : Nat} {S : List Value} {Z : gZ} {I : gI} {J : gJ} : g_at 98 79 [.ref x, l1] S Z I J = g_at 98 80 [.ref x, l1] (.ref x :: S) Z I J := gq_aload e_98_79 rfl
theorem e_98_80 : g_Pg 98 80 = ga_push (.int 0) 81 := (congrFun pg_98 80).trans rfl
theorem q_98_80 {L : List Value} {S : List Value} {Z : gZ} {I : gI} {J : gJ} : g_at 98 80 L S Z I J = g_at 98 81 L (.int 0 :: S) Z I J := gq_push e_98_80
theorem e_98_81 : g_Pg 98 81 = ga_putI 7 21 84 := (congrFun pg_98 81).trans rfl
theorem q_98_81 {L : List Value} {a : Nat} {v : Int32} {S : List Value} {Z : gZ} {I : gI} {J : gJ} (h : (gKd Z a).1 = 7) : g_at 98 81 L (.int v :: .ref a :: S) Z I J = g_at 98 84 L S Z (va_up I a (va_up (I a) 21 v)) J := gq_putI e_98_81 h
theorem e_98_84 : g_Pg 98 84 = ga_aload 0 85 := (congrFun pg_98 84).trans rfl
theorem q_98_84 {l1 : Value} {x : Nat} {S : List Value} {Z : gZ} {I : gI} {J : gJ} : g_at 98 84 [.ref x, l1] S Z I J = g_at 98 85 [.ref x, l1] (.ref x :: S) Z I J := gq_aload e_98_84 rfl
theorem e_98_85 : g_Pg 98 85 = ga_push (.int 0) 86 := (congrFun pg_98 85).trans rfl
theorem q_98_85 {L : List Value} {S : List Value} {Z : gZ} {I : gI} {J : gJ} : g_at 98 85 L S Z I J = g_at 98 86 L (.int 0 :: S) Z I J := gq_push e_98_85
theorem e_98_86 : g_Pg 98 86 = ga_putI 7 24 89 := (congrFun pg_98 86).trans rfl
theorem q_98_86 {L : List Value} {a : Nat} {v : Int32} {S : List Value} {Z : gZ} {I : gI} {J : gJ} (h : (gKd Z a).1 = 7) : g_at 98 86 L (.int v :: .ref a :: S) Z I J = g_at 98 89 L S Z (va_up I a (va_up (I a) 24 v)) J := gq_putI e_98_86 h
theorem e_98_89 : g_Pg 98 89 = ga_aload 0 90 := (congrFun pg_98 89).trans rfl
theorem q_98_89 {l1 : Value} {x : Nat} {S : List Value} {Z : gZ} {I : gI} {J : gJ} : g_at 98 89 [.ref x, l1] S Z I J = g_at 98 90 [.ref x, l1] (.ref x :: S) Z I J := gq_aload e_98_89 rfl
theorem e_98_90 : g_Pg 98 90 = ga_getR 7 23 93 := (congrFun pg_98 90).trans rfl
theorem q_98_90 {L : List Value} {a : Nat} {S : List Value} {Z : gZ} {I : gI} {J : gJ} (h : (gKd Z a).1 = 7) (h1 : gRs Z a 23 = true) : g_at 98 90 L (.ref a :: S) Z I J = g_at 98 93 L (.ref (gRq Z a 23) :: S) Z I J := gq_getR e_98_90 h h1
theorem e_98_93 : g_Pg 98 93 = ga_push (.int 0) 94 := (congrFun pg_98 93).trans rfl
theorem q_98_93 {L : List Value} {S : List Value} {Z : gZ} {I : gI} {J : gJ} : g_at 98 93 L S Z I J = g_at 98 94 L (.int 0 :: S) Z I J := gq_push e_98_93
theorem e_98_94 : g_Pg 98 94 = ga_push (.int 0) 95 := (congrFun pg_98 94).trans rfl
theorem q_98_94 {L : List Value} {S : List Value} {Z : gZ} {I : gI} {J : gJ} : g_at 98 94 L S Z I J = g_at 98 95 L (.int 0 :: S) Z I J := gq_push e_98_94
theorem e_98_95 : g_Pg 98 95 = ga_bast 96 := (congrFun pg_98 95).trans rfl
theorem q_98_95 {L : List Value} {a : Nat} {i : Int32} {v : Int32} {S : List Value} {Z : gZ} {I : gI} {J : gJ} (h : (gKd Z a).1 = 9) (h0 : 0 ≤ i) (h1 : i.toNatClampNeg < (gKd Z a).2) (h2 : gB01 v = true) : g_at 98 95 L (.int v :: .int i :: .ref a :: S) Z I J = g_at 98 96 L S Z (va_up I a (va_up (I a) i.toNatClampNeg v)) J := gq_bast e_98_95 h h0 h1 h2
theorem e_98_96 : g_Pg 98 96 = ga_aload 0 97 := (congrFun pg_98 96).trans rfl
theorem q_98_96 {l1 : Value} {x : Nat} {S : List Value} {Z : gZ} {I : gI} {J : gJ} : g_at 98 96 [.ref x, l1] S Z I J = g_at 98 97 [.ref x, l1] (.ref x :: S) Z I J := gq_aload e_98_96 rfl
theorem e_98_97 : g_Pg 98 97 = ga_getR 7 23 100 := (congrFun pg_98 97).trans rfl
theorem q_98_97 {L : List Value} {a : Nat} {S : List Value} {Z : gZ} {I : gI} {J : gJ} (h : (gKd Z a).1 = 7) (h1 : gRs Z a 23 = true) : g_at 98 97 L (.ref a :: S) Z I J = g_at 98 100 L (.ref (gRq Z a 23) :: S) Z I J := gq_getR e_98_97 h h1
theorem e_98_100 : g_Pg 98 100 = ga_push (.int 1) 101 := (congrFun pg_98 100).trans rfl
theorem q_98_100 {L : List Value} {S : List Value} {Z : gZ} {I : gI} {J : gJ} : g_at 98 100 L S Z I J = g_at 98 101 L (.int 1 :: S) Z I J := gq_push e_98_100
theorem e_98_101 : g_Pg 98 101 = ga_push (.int 0) 102 := (congrFun pg_98 101).trans rfl
theorem q_98_101 {L : List Value} {S : List Value} {Z : gZ} {I : gI} {J : gJ} : g_at 98 101 L S Z I J = g_at 98 102 L (.int 0 :: S) Z I J := gq_push e_98_101
theorem e_98_102 : g_Pg 98 102 = ga_bast 103 := (congrFun pg_98 102).trans rfl
theorem q_98_102 {L : List Value} {a : Nat} {i : Int32} {v : Int32} {S : List Value} {Z : gZ} {I : gI} {J : gJ} (h : (gKd Z a).1 = 9) (h0 : 0 ≤ i) (h1 : i.toNatClampNeg < (gKd Z a).2) (h2 : gB01 v = true) : g_at 98 102 L (.int v :: .int i :: .ref a :: S) Z I J = g_at 98 103 L S Z (va_up I a (va_up (I a) i.toNatClampNeg v)) J := gq_bast e_98_102 h h0 h1 h2
theorem e_98_103 : g_Pg 98 103 = ga_aload 0 104 := (congrFun pg_98 103).trans rfl
theorem q_98_103 {l1 : Value} {x : Nat} {S : List Value} {Z : gZ} {I : gI} {J : gJ} : g_at 98 103 [.ref x, l1] S Z I J = g_at 98 104 [.ref x, l1] (.ref x :: S) Z I J := gq_aload e_98_103 rfl
theorem e_98_104 : g_Pg 98 104 = ga_getI 7 15 107 := (congrFun pg_98 104).trans rfl
theorem q_98_104 {L : List Value} {a : Nat} {S : List Value} {Z : gZ} {I : gI} {J : gJ} (h : (gKd Z a).1 = 7) : g_at 98 104 L (.ref a :: S) Z I J = g_at 98 107 L (.int (I a 15) :: S) Z I J := gq_getI e_98_104 h
theorem e_98_107 : g_Pg 98 107 = ga_iret := (congrFun pg_98 107).trans rfl
theorem q_98_107 {L : List Value} {x : Int32} {Z : gZ} {I : gI} {J : gJ} : g_at 98 107 L [.int x] Z I J = some (some (.int x), Z, I, J) := gq_iret e_98_107
