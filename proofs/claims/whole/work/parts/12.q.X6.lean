theorem e_52_0 : g_Pg 52 0 = ga_aload 0 1 := (congrFun pg_52 0).trans rfl
theorem q_52_0 {l1 : Value} {x : Nat} {S : List Value} {Z : gZ} {I : gI} {J : gJ} : g_at 52 0 [.ref x, l1] S Z I J = g_at 52 1 [.ref x, l1] (.ref x :: S) Z I J := gq_aload e_52_0 rfl
theorem e_52_1 : g_Pg 52 1 = ga_oinit 4 := (congrFun pg_52 1).trans rfl
theorem q_52_1 {L : List Value} {x : Nat} {Z : gZ} {I : gI} {J : gJ} : g_at 52 1 L [.ref x] Z I J = g_at 52 4 L [] Z I J := gq_oinit e_52_1
theorem e_52_4 : g_Pg 52 4 = ga_aload 0 5 := (congrFun pg_52 4).trans rfl
theorem q_52_4 {l1 : Value} {x : Nat} {S : List Value} {Z : gZ} {I : gI} {J : gJ} : g_at 52 4 [.ref x, l1] S Z I J = g_at 52 5 [.ref x, l1] (.ref x :: S) Z I J := gq_aload e_52_4 rfl
theorem e_52_5 : g_Pg 52 5 = ga_new 4 6 8 := (congrFun pg_52 5).trans rfl
theorem q_52_5 {L : List Value} {S : List Value} {Z : gZ} {I : gI} {J : gJ} (h : Z.1 < 1000) : g_at 52 5 L S Z I J = g_at 52 8 L (.ref Z.1 :: S) (Z.1 + 1, Z.2.1 + 6, va_up Z.2.2.1 Z.1 (4, 0), va_up Z.2.2.2 Z.1 (fun _ => none)) (va_up I Z.1 (fun _ => 0)) (va_up J Z.1 (fun _ => 0)) := gq_new e_52_5 h
theorem e_52_8 : g_Pg 52 8 = ga_dup 9 := (congrFun pg_52 8).trans rfl
theorem q_52_8 {L : List Value} {x : Nat} {S : List Value} {Z : gZ} {I : gI} {J : gJ} : g_at 52 8 L (.ref x :: S) Z I J = g_at 52 9 L (.ref x :: .ref x :: S) Z I J := gq_dup e_52_8
theorem e_52_9 : g_Pg 52 9 = ga_callI 34 0 12 := (congrFun pg_52 9).trans rfl
theorem q_52_9 {L : List Value} {a0 : Nat} {r1 : Nat} {r2 : Nat} {Z : gZ} {I : gI} {J : gJ} : g_at 52 9 L [.ref a0, .ref r1, .ref r2] Z I J = (g_at 34 0 [.ref a0] [] Z I J).bind (fun r => g_at 52 12 L (r.1.toList ++ [.ref r1, .ref r2]) r.2.1 r.2.2.1 r.2.2.2) := gq_callI e_52_9 rfl rfl rfl rfl rfl rfl
theorem e_52_12 : g_Pg 52 12 = ga_putR 6 0 15 := (congrFun pg_52 12).trans rfl
theorem q_52_12 {L : List Value} {a v : Nat} {S : List Value} {Z : gZ} {I : gI} {J : gJ} (h : (gKd Z a).1 = 6) : g_at 52 12 L (.ref v :: .ref a :: S) Z I J = g_at 52 15 L S (Z.1, Z.2.1, Z.2.2.1, va_up Z.2.2.2 a (va_up (Z.2.2.2 a) 0 (some v))) I J := gq_putR e_52_12 h
theorem e_52_15 : g_Pg 52 15 = ga_aload 0 16 := (congrFun pg_52 15).trans rfl
theorem q_52_15 {l1 : Value} {x : Nat} {S : List Value} {Z : gZ} {I : gI} {J : gJ} : g_at 52 15 [.ref x, l1] S Z I J = g_at 52 16 [.ref x, l1] (.ref x :: S) Z I J := gq_aload e_52_15 rfl
theorem e_52_16 : g_Pg 52 16 = ga_new 0 6 19 := (congrFun pg_52 16).trans rfl
theorem q_52_16 {L : List Value} {S : List Value} {Z : gZ} {I : gI} {J : gJ} (h : Z.1 < 1000) : g_at 52 16 L S Z I J = g_at 52 19 L (.ref Z.1 :: S) (Z.1 + 1, Z.2.1 + 6, va_up Z.2.2.1 Z.1 (0, 0), va_up Z.2.2.2 Z.1 (fun _ => none)) (va_up I Z.1 (fun _ => 0)) (va_up J Z.1 (fun _ => 0)) := gq_new e_52_16 h
theorem e_52_19 : g_Pg 52 19 = ga_dup 20 := (congrFun pg_52 19).trans rfl
theorem q_52_19 {L : List Value} {x : Nat} {S : List Value} {Z : gZ} {I : gI} {J : gJ} : g_at 52 19 L (.ref x :: S) Z I J = g_at 52 20 L (.ref x :: .ref x :: S) Z I J := gq_dup e_52_19
theorem e_52_20 : g_Pg 52 20 = ga_callI 0 0 23 := (congrFun pg_52 20).trans rfl
theorem q_52_20 {L : List Value} {a0 : Nat} {r1 : Nat} {r2 : Nat} {Z : gZ} {I : gI} {J : gJ} : g_at 52 20 L [.ref a0, .ref r1, .ref r2] Z I J = (g_at 0 0 [.ref a0] [] Z I J).bind (fun r => g_at 52 23 L (r.1.toList ++ [.ref r1, .ref r2]) r.2.1 r.2.2.1 r.2.2.2) := gq_callI e_52_20 rfl rfl rfl rfl rfl rfl
theorem e_52_23 : g_Pg 52 23 = ga_putR 6 1 26 := (congrFun pg_52 23).trans rfl
theorem q_52_23 {L : List Value} {a v : Nat} {S : List Value} {Z : gZ} {I : gI} {J : gJ} (h : (gKd Z a).1 = 6) : g_at 52 23 L (.ref v :: .ref a :: S) Z I J = g_at 52 26 L S (Z.1, Z.2.1, Z.2.2.1, va_up Z.2.2.2 a (va_up (Z.2.2.2 a) 1 (some v))) I J := gq_putR e_52_23 h
theorem e_52_26 : g_Pg 52 26 = ga_aload 0 27 := (congrFun pg_52 26).trans rfl
theorem q_52_26 {l1 : Value} {x : Nat} {S : List Value} {Z : gZ} {I : gI} {J : gJ} : g_at 52 26 [.ref x, l1] S Z I J = g_at 52 27 [.ref x, l1] (.ref x :: S) Z I J := gq_aload e_52_26 rfl
theorem e_52_27 : g_Pg 52 27 = ga_new 0 6 30 := (congrFun pg_52 27).trans rfl
theorem q_52_27 {L : List Value} {S : List Value} {Z : gZ} {I : gI} {J : gJ} (h : Z.1 < 1000) : g_at 52 27 L S Z I J = g_at 52 30 L (.ref Z.1 :: S) (Z.1 + 1, Z.2.1 + 6, va_up Z.2.2.1 Z.1 (0, 0), va_up Z.2.2.2 Z.1 (fun _ => none)) (va_up I Z.1 (fun _ => 0)) (va_up J Z.1 (fun _ => 0)) := gq_new e_52_27 h
theorem e_52_30 : g_Pg 52 30 = ga_dup 31 := (congrFun pg_52 30).trans rfl
theorem q_52_30 {L : List Value} {x : Nat} {S : List Value} {Z : gZ} {I : gI} {J : gJ} : g_at 52 30 L (.ref x :: S) Z I J = g_at 52 31 L (.ref x :: .ref x :: S) Z I J := gq_dup e_52_30
theorem e_52_31 : g_Pg 52 31 = ga_callI 0 0 34 := (congrFun pg_52 31).trans rfl
theorem q_52_31 {L : List Value} {a0 : Nat} {r1 : Nat} {r2 : Nat} {Z : gZ} {I : gI} {J : gJ} : g_at 52 31 L [.ref a0, .ref r1, .ref r2] Z I J = (g_at 0 0 [.ref a0] [] Z I J).bind (fun r => g_at 52 34 L (r.1.toList ++ [.ref r1, .ref r2]) r.2.1 r.2.2.1 r.2.2.2) := gq_callI e_52_31 rfl rfl rfl rfl rfl rfl
theorem e_52_34 : g_Pg 52 34 = ga_putR 6 2 37 := (congrFun pg_52 34).trans rfl
theorem q_52_34 {L : List Value} {a v : Nat} {S : List Value} {Z : gZ} {I : gI} {J : gJ} (h : (gKd Z a).1 = 6) : g_at 52 34 L (.ref v :: .ref a :: S) Z I J = g_at 52 37 L S (Z.1, Z.2.1, Z.2.2.1, va_up Z.2.2.2 a (va_up (Z.2.2.2 a) 2 (some v))) I J := gq_putR e_52_34 h
theorem e_52_37 : g_Pg 52 37 = ga_aload 0 38 := (congrFun pg_52 37).trans rfl
theorem q_52_37 {l1 : Value} {x : Nat} {S : List Value} {Z : gZ} {I : gI} {J : gJ} : g_at 52 37 [.ref x, l1] S Z I J = g_at 52 38 [.ref x, l1] (.ref x :: S) Z I J := gq_aload e_52_37 rfl
theorem e_52_38 : g_Pg 52 38 = ga_new 2 5 41 := (congrFun pg_52 38).trans rfl
theorem q_52_38 {L : List Value} {S : List Value} {Z : gZ} {I : gI} {J : gJ} (h : Z.1 < 1000) : g_at 52 38 L S Z I J = g_at 52 41 L (.ref Z.1 :: S) (Z.1 + 1, Z.2.1 + 5, va_up Z.2.2.1 Z.1 (2, 0), va_up Z.2.2.2 Z.1 (fun _ => none)) (va_up I Z.1 (fun _ => 0)) (va_up J Z.1 (fun _ => 0)) := gq_new e_52_38 h
theorem e_52_41 : g_Pg 52 41 = ga_dup 42 := (congrFun pg_52 41).trans rfl
theorem q_52_41 {L : List Value} {x : Nat} {S : List Value} {Z : gZ} {I : gI} {J : gJ} : g_at 52 41 L (.ref x :: S) Z I J = g_at 52 42 L (.ref x :: .ref x :: S) Z I J := gq_dup e_52_41
theorem e_52_42 : g_Pg 52 42 = ga_callI 22 0 45 := (congrFun pg_52 42).trans rfl
theorem q_52_42 {L : List Value} {a0 : Nat} {r1 : Nat} {r2 : Nat} {Z : gZ} {I : gI} {J : gJ} : g_at 52 42 L [.ref a0, .ref r1, .ref r2] Z I J = (g_at 22 0 [.ref a0] [] Z I J).bind (fun r => g_at 52 45 L (r.1.toList ++ [.ref r1, .ref r2]) r.2.1 r.2.2.1 r.2.2.2) := gq_callI e_52_42 rfl rfl rfl rfl rfl rfl
theorem e_52_45 : g_Pg 52 45 = ga_putR 6 3 48 := (congrFun pg_52 45).trans rfl
theorem q_52_45 {L : List Value} {a v : Nat} {S : List Value} {Z : gZ} {I : gI} {J : gJ} (h : (gKd Z a).1 = 6) : g_at 52 45 L (.ref v :: .ref a :: S) Z I J = g_at 52 48 L S (Z.1, Z.2.1, Z.2.2.1, va_up Z.2.2.2 a (va_up (Z.2.2.2 a) 3 (some v))) I J := gq_putR e_52_45 h
theorem e_52_48 : g_Pg 52 48 = ga_aload 0 49 := (congrFun pg_52 48).trans rfl
theorem q_52_48 {l1 : Value} {x : Nat} {S : List Value} {Z : gZ} {I : gI} {J : gJ} : g_at 52 48 [.ref x, l1] S Z I J = g_at 52 49 [.ref x, l1] (.ref x :: S) Z I J := gq_aload e_52_48 rfl
theorem e_52_49 : g_Pg 52 49 = ga_push (.int 2) 50 := (congrFun pg_52 49).trans rfl
theorem q_52_49 {L : List Value} {S : List Value} {Z : gZ} {I : gI} {J : gJ} : g_at 52 49 L S Z I J = g_at 52 50 L (.int 2 :: S) Z I J := gq_push e_52_49
theorem e_52_50 : g_Pg 52 50 = ga_newa 11 53 := (congrFun pg_52 50).trans rfl
theorem q_52_50 {L : List Value} {n : Int32} {S : List Value} {Z : gZ} {I : gI} {J : gJ} (h : Z.1 < 1000) (h0 : 0 ≤ n) (h1 : n.toNatClampNeg ≤ 1000) : g_at 52 50 L (.int n :: S) Z I J = g_at 52 53 L (.ref Z.1 :: S) (Z.1 + 1, Z.2.1 + n.toNatClampNeg, va_up Z.2.2.1 Z.1 (11, n.toNatClampNeg), va_up Z.2.2.2 Z.1 (fun _ => none)) (va_up I Z.1 (fun _ => 0)) (va_up J Z.1 (fun _ => 0)) := gq_newa e_52_50 h h0 h1
theorem e_52_53 : g_Pg 52 53 = ga_putR 6 4 56 := (congrFun pg_52 53).trans rfl
theorem q_52_53 {L : List Value} {a v : Nat} {S : List Value} {Z : gZ} {I : gI} {J : gJ} (h : (gKd Z a).1 = 6) : g_at 52 53 L (.ref v :: .ref a :: S) Z I J = g_at 52 56 L S (Z.1, Z.2.1, Z.2.2.1, va_up Z.2.2.2 a (va_up (Z.2.2.2 a) 4 (some v))) I J := gq_putR e_52_53 h
theorem e_52_56 : g_Pg 52 56 = ga_push (.int 0) 57 := (congrFun pg_52 56).trans rfl
theorem q_52_56 {L : List Value} {S : List Value} {Z : gZ} {I : gI} {J : gJ} : g_at 52 56 L S Z I J = g_at 52 57 L (.int 0 :: S) Z I J := gq_push e_52_56
theorem e_52_57 : g_Pg 52 57 = ga_istore 1 58 := (congrFun pg_52 57).trans rfl
theorem q_52_57 {l0 l1 : Value} {x : Int32} {S : List Value} {Z : gZ} {I : gI} {J : gJ} (h : gN1 l0 = true) : g_at 52 57 [l0, l1] (.int x :: S) Z I J = g_at 52 58 [l0, .int x] S Z I J := gq_istore e_52_57 h rfl rfl
theorem e_52_58 : g_Pg 52 58 = ga_iload 1 59 := (congrFun pg_52 58).trans rfl
theorem q_52_58 {l0 : Value} {x : Int32} {S : List Value} {Z : gZ} {I : gI} {J : gJ} : g_at 52 58 [l0, .int x] S Z I J = g_at 52 59 [l0, .int x] (.int x :: S) Z I J := gq_iload e_52_58 rfl
theorem e_52_59 : g_Pg 52 59 = ga_push (.int 2) 60 := (congrFun pg_52 59).trans rfl
theorem q_52_59 {L : List Value} {S : List Value} {Z : gZ} {I : gI} {J : gJ} : g_at 52 59 L S Z I J = g_at 52 60 L (.int 2 :: S) Z I J := gq_push e_52_59
theorem e_52_60 : g_Pg 52 60 = ga_cmp (fun x y => decide (y ≤ x)) 82 63 := (congrFun pg_52 60).trans rfl
theorem q_52_60 {L : List Value} {x y : Int32} {S : List Value} {Z : gZ} {I : gI} {J : gJ} : g_at 52 60 L (.int y :: .int x :: S) Z I J = if y ≤ x then g_at 52 82 L S Z I J else g_at 52 63 L S Z I J := gq_cmp e_52_60 rfl
theorem e_52_63 : g_Pg 52 63 = ga_aload 0 64 := (congrFun pg_52 63).trans rfl
theorem q_52_63 {l1 : Value} {x : Nat} {S : List Value} {Z : gZ} {I : gI} {J : gJ} : g_at 52 63 [.ref x, l1] S Z I J = g_at 52 64 [.ref x, l1] (.ref x :: S) Z I J := gq_aload e_52_63 rfl
theorem e_52_64 : g_Pg 52 64 = ga_getR 6 4 67 := (congrFun pg_52 64).trans rfl
theorem q_52_64 {L : List Value} {a : Nat} {S : List Value} {Z : gZ} {I : gI} {J : gJ} (h : (gKd Z a).1 = 6) (h1 : gRs Z a 4 = true) : g_at 52 64 L (.ref a :: S) Z I J = g_at 52 67 L (.ref (gRq Z a 4) :: S) Z I J := gq_getR e_52_64 h h1
theorem e_52_67 : g_Pg 52 67 = ga_iload 1 68 := (congrFun pg_52 67).trans rfl
theorem q_52_67 {l0 : Value} {x : Int32} {S : List Value} {Z : gZ} {I : gI} {J : gJ} : g_at 52 67 [l0, .int x] S Z I J = g_at 52 68 [l0, .int x] (.int x :: S) Z I J := gq_iload e_52_67 rfl
theorem e_52_68 : g_Pg 52 68 = ga_new 2 5 71 := (congrFun pg_52 68).trans rfl
theorem q_52_68 {L : List Value} {S : List Value} {Z : gZ} {I : gI} {J : gJ} (h : Z.1 < 1000) : g_at 52 68 L S Z I J = g_at 52 71 L (.ref Z.1 :: S) (Z.1 + 1, Z.2.1 + 5, va_up Z.2.2.1 Z.1 (2, 0), va_up Z.2.2.2 Z.1 (fun _ => none)) (va_up I Z.1 (fun _ => 0)) (va_up J Z.1 (fun _ => 0)) := gq_new e_52_68 h
theorem e_52_71 : g_Pg 52 71 = ga_dup 72 := (congrFun pg_52 71).trans rfl
theorem q_52_71 {L : List Value} {x : Nat} {S : List Value} {Z : gZ} {I : gI} {J : gJ} : g_at 52 71 L (.ref x :: S) Z I J = g_at 52 72 L (.ref x :: .ref x :: S) Z I J := gq_dup e_52_71
theorem e_52_72 : g_Pg 52 72 = ga_callI 22 0 75 := (congrFun pg_52 72).trans rfl
theorem q_52_72 {L : List Value} {a0 : Nat} {r1 : Nat} {r2 : Int32} {r3 : Nat} {Z : gZ} {I : gI} {J : gJ} : g_at 52 72 L [.ref a0, .ref r1, .int r2, .ref r3] Z I J = (g_at 22 0 [.ref a0] [] Z I J).bind (fun r => g_at 52 75 L (r.1.toList ++ [.ref r1, .int r2, .ref r3]) r.2.1 r.2.2.1 r.2.2.2) := gq_callI e_52_72 rfl rfl rfl rfl rfl rfl
theorem e_52_75 : g_Pg 52 75 = ga_aast 76 := (congrFun pg_52 75).trans rfl
theorem q_52_75 {L : List Value} {a : Nat} {i : Int32} {v : Nat} {S : List Value} {Z : gZ} {I : gI} {J : gJ} (h : (gKd Z a).1 = 11) (h0 : 0 ≤ i) (h1 : i.toNatClampNeg < (gKd Z a).2) (h2 : (gKd Z v).1 = 2) : g_at 52 75 L (.ref v :: .int i :: .ref a :: S) Z I J = g_at 52 76 L S (Z.1, Z.2.1, Z.2.2.1, va_up Z.2.2.2 a (va_up (Z.2.2.2 a) i.toNatClampNeg (some v))) I J := gq_aast e_52_75 h h0 h1 h2
theorem e_52_76 : g_Pg 52 76 = ga_iinc 1 1 79 := (congrFun pg_52 76).trans rfl
theorem q_52_76 {l0 : Value} {x : Int32} {S : List Value} {Z : gZ} {I : gI} {J : gJ} (h : gN1 l0 = true) : g_at 52 76 [l0, .int x] S Z I J = g_at 52 79 [l0, .int (x + 1)] S Z I J := gq_iinc e_52_76 rfl h rfl
theorem e_52_79 : g_Pg 52 79 = ga_goto 58 := (congrFun pg_52 79).trans rfl
theorem q_52_79 {L : List Value} {S : List Value} {Z : gZ} {I : gI} {J : gJ} : g_at 52 79 L S Z I J = g_at 52 58 L S Z I J := gq_goto e_52_79
theorem e_52_82 : g_Pg 52 82 = ga_aload 0 83 := (congrFun pg_52 82).trans rfl
theorem q_52_82 {l1 : Value} {x : Nat} {S : List Value} {Z : gZ} {I : gI} {J : gJ} : g_at 52 82 [.ref x, l1] S Z I J = g_at 52 83 [.ref x, l1] (.ref x :: S) Z I J := gq_aload e_52_82 rfl
theorem e_52_83 : g_Pg 52 83 = ga_push (.int 2) 84 := (congrFun pg_52 83).trans rfl
theorem q_52_83 {L : List Value} {S : List Value} {Z : gZ} {I : gI} {J : gJ} : g_at 52 83 L S Z I J = g_at 52 84 L (.int 2 :: S) Z I J := gq_push e_52_83
theorem e_52_84 : g_Pg 52 84 = ga_newa 9 86 := (congrFun pg_52 84).trans rfl
theorem q_52_84 {L : List Value} {n : Int32} {S : List Value} {Z : gZ} {I : gI} {J : gJ} (h : Z.1 < 1000) (h0 : 0 ≤ n) (h1 : n.toNatClampNeg ≤ 1000) : g_at 52 84 L (.int n :: S) Z I J = g_at 52 86 L (.ref Z.1 :: S) (Z.1 + 1, Z.2.1 + n.toNatClampNeg, va_up Z.2.2.1 Z.1 (9, n.toNatClampNeg), va_up Z.2.2.2 Z.1 (fun _ => none)) (va_up I Z.1 (fun _ => 0)) (va_up J Z.1 (fun _ => 0)) := gq_newa e_52_84 h h0 h1
theorem e_52_86 : g_Pg 52 86 = ga_putR 6 5 89 := (congrFun pg_52 86).trans rfl
theorem q_52_86 {L : List Value} {a v : Nat} {S : List Value} {Z : gZ} {I : gI} {J : gJ} (h : (gKd Z a).1 = 6) : g_at 52 86 L (.ref v :: .ref a :: S) Z I J = g_at 52 89 L S (Z.1, Z.2.1, Z.2.2.1, va_up Z.2.2.2 a (va_up (Z.2.2.2 a) 5 (some v))) I J := gq_putR e_52_86 h
theorem e_52_89 : g_Pg 52 89 = ga_aload 0 90 := (congrFun pg_52 89).trans rfl
theorem q_52_89 {l1 : Value} {x : Nat} {S : List Value} {Z : gZ} {I : gI} {J : gJ} : g_at 52 89 [.ref x, l1] S Z I J = g_at 52 90 [.ref x, l1] (.ref x :: S) Z I J := gq_aload e_52_89 rfl
theorem e_52_90 : g_Pg 52 90 = ga_new 3 3 93 := (congrFun pg_52 90).trans rfl
theorem q_52_90 {L : List Value} {S : List Value} {Z : gZ} {I : gI} {J : gJ} (h : Z.1 < 1000) : g_at 52 90 L S Z I J = g_at 52 93 L (.ref Z.1 :: S) (Z.1 + 1, Z.2.1 + 3, va_up Z.2.2.1 Z.1 (3, 0), va_up Z.2.2.2 Z.1 (fun _ => none)) (va_up I Z.1 (fun _ => 0)) (va_up J Z.1 (fun _ => 0)) := gq_new e_52_90 h
theorem e_52_93 : g_Pg 52 93 = ga_dup 94 := (congrFun pg_52 93).trans rfl
theorem q_52_93 {L : List Value} {x : Nat} {S : List Value} {Z : gZ} {I : gI} {J : gJ} : g_at 52 93 L (.ref x :: S) Z I J = g_at 52 94 L (.ref x :: .ref x :: S) Z I J := gq_dup e_52_93
theorem e_52_94 : g_Pg 52 94 = ga_callI 31 0 97 := (congrFun pg_52 94).trans rfl
theorem q_52_94 {L : List Value} {a0 : Nat} {r1 : Nat} {r2 : Nat} {Z : gZ} {I : gI} {J : gJ} : g_at 52 94 L [.ref a0, .ref r1, .ref r2] Z I J = (g_at 31 0 [.ref a0] [] Z I J).bind (fun r => g_at 52 97 L (r.1.toList ++ [.ref r1, .ref r2]) r.2.1 r.2.2.1 r.2.2.2) := gq_callI e_52_94 rfl rfl rfl rfl rfl rfl
theorem e_52_97 : g_Pg 52 97 = ga_putR 6 6 100 := (congrFun pg_52 97).trans rfl
theorem q_52_97 {L : List Value} {a v : Nat} {S : List Value} {Z : gZ} {I : gI} {J : gJ} (h : (gKd Z a).1 = 6) : g_at 52 97 L (.ref v :: .ref a :: S) Z I J = g_at 52 100 L S (Z.1, Z.2.1, Z.2.2.1, va_up Z.2.2.2 a (va_up (Z.2.2.2 a) 6 (some v))) I J := gq_putR e_52_97 h
theorem e_52_100 : g_Pg 52 100 = ga_aload 0 101 := (congrFun pg_52 100).trans rfl
theorem q_52_100 {l1 : Value} {x : Nat} {S : List Value} {Z : gZ} {I : gI} {J : gJ} : g_at 52 100 [.ref x, l1] S Z I J = g_at 52 101 [.ref x, l1] (.ref x :: S) Z I J := gq_aload e_52_100 rfl
theorem e_52_101 : g_Pg 52 101 = ga_new 1 8 104 := (congrFun pg_52 101).trans rfl
theorem q_52_101 {L : List Value} {S : List Value} {Z : gZ} {I : gI} {J : gJ} (h : Z.1 < 1000) : g_at 52 101 L S Z I J = g_at 52 104 L (.ref Z.1 :: S) (Z.1 + 1, Z.2.1 + 8, va_up Z.2.2.1 Z.1 (1, 0), va_up Z.2.2.2 Z.1 (fun _ => none)) (va_up I Z.1 (fun _ => 0)) (va_up J Z.1 (fun _ => 0)) := gq_new e_52_101 h
theorem e_52_104 : g_Pg 52 104 = ga_dup 105 := (congrFun pg_52 104).trans rfl
theorem q_52_104 {L : List Value} {x : Nat} {S : List Value} {Z : gZ} {I : gI} {J : gJ} : g_at 52 104 L (.ref x :: S) Z I J = g_at 52 105 L (.ref x :: .ref x :: S) Z I J := gq_dup e_52_104
theorem e_52_105 : g_Pg 52 105 = ga_callI 8 0 108 := (congrFun pg_52 105).trans rfl
theorem q_52_105 {L : List Value} {a0 : Nat} {r1 : Nat} {r2 : Nat} {Z : gZ} {I : gI} {J : gJ} : g_at 52 105 L [.ref a0, .ref r1, .ref r2] Z I J = (g_at 8 0 [.ref a0] [] Z I J).bind (fun r => g_at 52 108 L (r.1.toList ++ [.ref r1, .ref r2]) r.2.1 r.2.2.1 r.2.2.2) := gq_callI e_52_105 rfl rfl rfl rfl rfl rfl
theorem e_52_108 : g_Pg 52 108 = ga_putR 6 7 111 := (congrFun pg_52 108).trans rfl
theorem q_52_108 {L : List Value} {a v : Nat} {S : List Value} {Z : gZ} {I : gI} {J : gJ} (h : (gKd Z a).1 = 6) : g_at 52 108 L (.ref v :: .ref a :: S) Z I J = g_at 52 111 L S (Z.1, Z.2.1, Z.2.2.1, va_up Z.2.2.2 a (va_up (Z.2.2.2 a) 7 (some v))) I J := gq_putR e_52_108 h
theorem e_52_111 : g_Pg 52 111 = ga_vret := (congrFun pg_52 111).trans rfl
theorem q_52_111 {L : List Value} {Z : gZ} {I : gI} {J : gJ} : g_at 52 111 L [] Z I J = some (none, Z, I, J) := gq_vret e_52_111
theorem e_53_0 : g_Pg 53 0 = ga_iload 3 1 := (congrFun pg_53 0).trans rfl
theorem q_53_0 {l0 l1 l2 l4 : Value} {x : Int32} {S : List Value} {Z : gZ} {I : gI} {J : gJ} : g_at 53 0 [l0, l1, l2, .int x, l4] S Z I J = g_at 53 1 [l0, l1, l2, .int x, l4] (.int x :: S) Z I J := gq_iload e_53_0 rfl
theorem e_53_1 : g_Pg 53 1 = ga_push (.int 1) 2 := (congrFun pg_53 1).trans rfl
theorem q_53_1 {L : List Value} {S : List Value} {Z : gZ} {I : gI} {J : gJ} : g_at 53 1 L S Z I J = g_at 53 2 L (.int 1 :: S) Z I J := gq_push e_53_1
theorem e_53_2 : g_Pg 53 2 = ga_cmp (fun x y => decide (x < y)) 11 5 := (congrFun pg_53 2).trans rfl
theorem q_53_2 {L : List Value} {x y : Int32} {S : List Value} {Z : gZ} {I : gI} {J : gJ} : g_at 53 2 L (.int y :: .int x :: S) Z I J = if x < y then g_at 53 11 L S Z I J else g_at 53 5 L S Z I J := gq_cmp e_53_2 rfl
theorem e_53_5 : g_Pg 53 5 = ga_iload 3 6 := (congrFun pg_53 5).trans rfl
theorem q_53_5 {l0 l1 l2 l4 : Value} {x : Int32} {S : List Value} {Z : gZ} {I : gI} {J : gJ} : g_at 53 5 [l0, l1, l2, .int x, l4] S Z I J = g_at 53 6 [l0, l1, l2, .int x, l4] (.int x :: S) Z I J := gq_iload e_53_5 rfl
theorem e_53_6 : g_Pg 53 6 = ga_push (.int 8) 8 := (congrFun pg_53 6).trans rfl
theorem q_53_6 {L : List Value} {S : List Value} {Z : gZ} {I : gI} {J : gJ} : g_at 53 6 L S Z I J = g_at 53 8 L (.int 8 :: S) Z I J := gq_push e_53_6
theorem e_53_8 : g_Pg 53 8 = ga_cmp (fun x y => decide (x ≤ y)) 14 11 := (congrFun pg_53 8).trans rfl
theorem q_53_8 {L : List Value} {x y : Int32} {S : List Value} {Z : gZ} {I : gI} {J : gJ} : g_at 53 8 L (.int y :: .int x :: S) Z I J = if x ≤ y then g_at 53 14 L S Z I J else g_at 53 11 L S Z I J := gq_cmp e_53_8 rfl
theorem e_53_11 : g_Pg 53 11 = ga_push (.int (-3)) 13 := (congrFun pg_53 11).trans rfl
theorem q_53_11 {L : List Value} {S : List Value} {Z : gZ} {I : gI} {J : gJ} : g_at 53 11 L S Z I J = g_at 53 13 L (.int (-3) :: S) Z I J := gq_push e_53_11
theorem e_53_13 : g_Pg 53 13 = ga_iret := (congrFun pg_53 13).trans rfl
theorem q_53_13 {L : List Value} {x : Int32} {Z : gZ} {I : gI} {J : gJ} : g_at 53 13 L [.int x] Z I J = some (some (.int x), Z, I, J) := gq_iret e_53_13
theorem e_53_14 : g_Pg 53 14 = ga_aload 0 15 := (congrFun pg_53 14).trans rfl
theorem q_53_14 {l1 l2 l3 l4 : Value} {x : Nat} {S : List Value} {Z : gZ} {I : gI} {J : gJ} : g_at 53 14 [.ref x, l1, l2, l3, l4] S Z I J = g_at 53 15 [.ref x, l1, l2, l3, l4] (.ref x :: S) Z I J := gq_aload e_53_14 rfl
theorem e_53_15 : g_Pg 53 15 = ga_getR 6 0 18 := (congrFun pg_53 15).trans rfl
theorem q_53_15 {L : List Value} {a : Nat} {S : List Value} {Z : gZ} {I : gI} {J : gJ} (h : (gKd Z a).1 = 6) (h1 : gRs Z a 0 = true) : g_at 53 15 L (.ref a :: S) Z I J = g_at 53 18 L (.ref (gRq Z a 0) :: S) Z I J := gq_getR e_53_15 h h1
theorem e_53_18 : g_Pg 53 18 = ga_getI 4 1 21 := (congrFun pg_53 18).trans rfl
theorem q_53_18 {L : List Value} {a : Nat} {S : List Value} {Z : gZ} {I : gI} {J : gJ} (h : (gKd Z a).1 = 4) : g_at 53 18 L (.ref a :: S) Z I J = g_at 53 21 L (.int (I a 1) :: S) Z I J := gq_getI e_53_18 h
theorem e_53_21 : g_Pg 53 21 = ga_iload 3 22 := (congrFun pg_53 21).trans rfl
theorem q_53_21 {l0 l1 l2 l4 : Value} {x : Int32} {S : List Value} {Z : gZ} {I : gI} {J : gJ} : g_at 53 21 [l0, l1, l2, .int x, l4] S Z I J = g_at 53 22 [l0, l1, l2, .int x, l4] (.int x :: S) Z I J := gq_iload e_53_21 rfl
theorem e_53_22 : g_Pg 53 22 = ga_bin (fun x y => x + y) 23 := (congrFun pg_53 22).trans rfl
theorem q_53_22 {L : List Value} {x y : Int32} {S : List Value} {Z : gZ} {I : gI} {J : gJ} : g_at 53 22 L (.int y :: .int x :: S) Z I J = g_at 53 23 L (.int (x + y) :: S) Z I J := gq_bin e_53_22
theorem e_53_23 : g_Pg 53 23 = ga_push (.int 200) 26 := (congrFun pg_53 23).trans rfl
theorem q_53_23 {L : List Value} {S : List Value} {Z : gZ} {I : gI} {J : gJ} : g_at 53 23 L S Z I J = g_at 53 26 L (.int 200 :: S) Z I J := gq_push e_53_23
theorem e_53_26 : g_Pg 53 26 = ga_cmp (fun x y => decide (x ≤ y)) 32 29 := (congrFun pg_53 26).trans rfl
theorem q_53_26 {L : List Value} {x y : Int32} {S : List Value} {Z : gZ} {I : gI} {J : gJ} : g_at 53 26 L (.int y :: .int x :: S) Z I J = if x ≤ y then g_at 53 32 L S Z I J else g_at 53 29 L S Z I J := gq_cmp e_53_26 rfl
theorem e_53_29 : g_Pg 53 29 = ga_push (.int (-5)) 31 := (congrFun pg_53 29).trans rfl
theorem q_53_29 {L : List Value} {S : List Value} {Z : gZ} {I : gI} {J : gJ} : g_at 53 29 L S Z I J = g_at 53 31 L (.int (-5) :: S) Z I J := gq_push e_53_29
theorem e_53_31 : g_Pg 53 31 = ga_iret := (congrFun pg_53 31).trans rfl
theorem q_53_31 {L : List Value} {x : Int32} {Z : gZ} {I : gI} {J : gJ} : g_at 53 31 L [.int x] Z I J = some (some (.int x), Z, I, J) := gq_iret e_53_31
theorem e_53_32 : g_Pg 53 32 = ga_push (.int 0) 33 := (congrFun pg_53 32).trans rfl
theorem q_53_32 {L : List Value} {S : List Value} {Z : gZ} {I : gI} {J : gJ} : g_at 53 32 L S Z I J = g_at 53 33 L (.int 0 :: S) Z I J := gq_push e_53_32
theorem e_53_33 : g_Pg 53 33 = ga_istore 4 35 := (congrFun pg_53 33).trans rfl
theorem q_53_33 {l0 l1 l2 l3 l4 : Value} {x : Int32} {S : List Value} {Z : gZ} {I : gI} {J : gJ} (h : gN1 l3 = true) : g_at 53 33 [l0, l1, l2, l3, l4] (.int x :: S) Z I J = g_at 53 35 [l0, l1, l2, l3, .int x] S Z I J := gq_istore e_53_33 h rfl rfl
theorem e_53_35 : g_Pg 53 35 = ga_iload 4 37 := (congrFun pg_53 35).trans rfl
theorem q_53_35 {l0 l1 l2 l3 : Value} {x : Int32} {S : List Value} {Z : gZ} {I : gI} {J : gJ} : g_at 53 35 [l0, l1, l2, l3, .int x] S Z I J = g_at 53 37 [l0, l1, l2, l3, .int x] (.int x :: S) Z I J := gq_iload e_53_35 rfl
theorem e_53_37 : g_Pg 53 37 = ga_iload 3 38 := (congrFun pg_53 37).trans rfl
theorem q_53_37 {l0 l1 l2 l4 : Value} {x : Int32} {S : List Value} {Z : gZ} {I : gI} {J : gJ} : g_at 53 37 [l0, l1, l2, .int x, l4] S Z I J = g_at 53 38 [l0, l1, l2, .int x, l4] (.int x :: S) Z I J := gq_iload e_53_37 rfl
theorem e_53_38 : g_Pg 53 38 = ga_cmp (fun x y => decide (y ≤ x)) 66 41 := (congrFun pg_53 38).trans rfl
theorem q_53_38 {L : List Value} {x y : Int32} {S : List Value} {Z : gZ} {I : gI} {J : gJ} : g_at 53 38 L (.int y :: .int x :: S) Z I J = if y ≤ x then g_at 53 66 L S Z I J else g_at 53 41 L S Z I J := gq_cmp e_53_38 rfl
theorem e_53_41 : g_Pg 53 41 = ga_aload 0 42 := (congrFun pg_53 41).trans rfl
theorem q_53_41 {l1 l2 l3 l4 : Value} {x : Nat} {S : List Value} {Z : gZ} {I : gI} {J : gJ} : g_at 53 41 [.ref x, l1, l2, l3, l4] S Z I J = g_at 53 42 [.ref x, l1, l2, l3, l4] (.ref x :: S) Z I J := gq_aload e_53_41 rfl
theorem e_53_42 : g_Pg 53 42 = ga_getR 6 0 45 := (congrFun pg_53 42).trans rfl
theorem q_53_42 {L : List Value} {a : Nat} {S : List Value} {Z : gZ} {I : gI} {J : gJ} (h : (gKd Z a).1 = 6) (h1 : gRs Z a 0 = true) : g_at 53 42 L (.ref a :: S) Z I J = g_at 53 45 L (.ref (gRq Z a 0) :: S) Z I J := gq_getR e_53_42 h h1
theorem e_53_45 : g_Pg 53 45 = ga_lload 1 46 := (congrFun pg_53 45).trans rfl
theorem q_53_45 {l0 l2 l3 l4 : Value} {x : Int64} {S : List Value} {Z : gZ} {I : gI} {J : gJ} : g_at 53 45 [l0, .long x, l2, l3, l4] S Z I J = g_at 53 46 [l0, .long x, l2, l3, l4] (.long x :: S) Z I J := gq_lload e_53_45 rfl
theorem e_53_46 : g_Pg 53 46 = ga_push (.int 8) 48 := (congrFun pg_53 46).trans rfl
theorem q_53_46 {L : List Value} {S : List Value} {Z : gZ} {I : gI} {J : gJ} : g_at 53 46 L S Z I J = g_at 53 48 L (.int 8 :: S) Z I J := gq_push e_53_46
theorem e_53_48 : g_Pg 53 48 = ga_iload 4 50 := (congrFun pg_53 48).trans rfl
theorem q_53_48 {l0 l1 l2 l3 : Value} {x : Int32} {S : List Value} {Z : gZ} {I : gI} {J : gJ} : g_at 53 48 [l0, l1, l2, l3, .int x] S Z I J = g_at 53 50 [l0, l1, l2, l3, .int x] (.int x :: S) Z I J := gq_iload e_53_48 rfl
theorem e_53_50 : g_Pg 53 50 = ga_bin (fun x y => x * y) 51 := (congrFun pg_53 50).trans rfl
theorem q_53_50 {L : List Value} {x y : Int32} {S : List Value} {Z : gZ} {I : gI} {J : gJ} : g_at 53 50 L (.int y :: .int x :: S) Z I J = g_at 53 51 L (.int (x * y) :: S) Z I J := gq_bin e_53_50
theorem e_53_51 : g_Pg 53 51 = ga_lsh (fun x y => x >>> (y.toInt64 &&& 63)) 52 := (congrFun pg_53 51).trans rfl
theorem q_53_51 {L : List Value} {x : Int64} {y : Int32} {S : List Value} {Z : gZ} {I : gI} {J : gJ} : g_at 53 51 L (.int y :: .long x :: S) Z I J = g_at 53 52 L (.long (x >>> (y.toInt64 &&& 63)) :: S) Z I J := gq_lsh e_53_51
theorem e_53_52 : g_Pg 53 52 = ga_push (.long 255) 55 := (congrFun pg_53 52).trans rfl
theorem q_53_52 {L : List Value} {S : List Value} {Z : gZ} {I : gI} {J : gJ} : g_at 53 52 L S Z I J = g_at 53 55 L (.long 255 :: S) Z I J := gq_push e_53_52
theorem e_53_55 : g_Pg 53 55 = ga_lbin (fun x y => x &&& y) 56 := (congrFun pg_53 55).trans rfl
theorem q_53_55 {L : List Value} {x y : Int64} {S : List Value} {Z : gZ} {I : gI} {J : gJ} : g_at 53 55 L (.long y :: .long x :: S) Z I J = g_at 53 56 L (.long (x &&& y) :: S) Z I J := gq_lbin e_53_55
theorem e_53_56 : g_Pg 53 56 = ga_l2i 57 := (congrFun pg_53 56).trans rfl
theorem q_53_56 {L : List Value} {x : Int64} {S : List Value} {Z : gZ} {I : gI} {J : gJ} : g_at 53 56 L (.long x :: S) Z I J = g_at 53 57 L (.int x.toInt32 :: S) Z I J := gq_l2i e_53_56
theorem e_53_57 : g_Pg 53 57 = ga_callV 4 35 1 60 := (congrFun pg_53 57).trans rfl
theorem q_53_57 {L : List Value} {a0 : Int32} {a1 : Nat} {Z : gZ} {I : gI} {J : gJ} (h : (gKd Z a1).1 = 4) : g_at 53 57 L [.int a0, .ref a1] Z I J = (g_at 35 0 [.ref a1, .int a0] [] Z I J).bind (fun r => g_at 53 60 L (r.1.toList ++ []) r.2.1 r.2.2.1 r.2.2.2) := gq_callV e_53_57 rfl rfl h rfl rfl rfl rfl rfl
theorem e_53_60 : g_Pg 53 60 = ga_iinc 4 1 63 := (congrFun pg_53 60).trans rfl
theorem q_53_60 {l0 l1 l2 l3 : Value} {x : Int32} {S : List Value} {Z : gZ} {I : gI} {J : gJ} (h : gN1 l3 = true) : g_at 53 60 [l0, l1, l2, l3, .int x] S Z I J = g_at 53 63 [l0, l1, l2, l3, .int (x + 1)] S Z I J := gq_iinc e_53_60 rfl h rfl
theorem e_53_63 : g_Pg 53 63 = ga_goto 35 := (congrFun pg_53 63).trans rfl
theorem q_53_63 {L : List Value} {S : List Value} {Z : gZ} {I : gI} {J : gJ} : g_at 53 63 L S Z I J = g_at 53 35 L S Z I J := gq_goto e_53_63
theorem e_53_66 : g_Pg 53 66 = ga_aload 0 67 := (congrFun pg_53 66).trans rfl
theorem q_53_66 {l1 l2 l3 l4 : Value} {x : Nat} {S : List Value} {Z : gZ} {I : gI} {J : gJ} : g_at 53 66 [.ref x, l1, l2, l3, l4] S Z I J = g_at 53 67 [.ref x, l1, l2, l3, l4] (.ref x :: S) Z I J := gq_aload e_53_66 rfl
theorem e_53_67 : g_Pg 53 67 = ga_getR 6 0 70 := (congrFun pg_53 67).trans rfl
theorem q_53_67 {L : List Value} {a : Nat} {S : List Value} {Z : gZ} {I : gI} {J : gJ} (h : (gKd Z a).1 = 6) (h1 : gRs Z a 0 = true) : g_at 53 67 L (.ref a :: S) Z I J = g_at 53 70 L (.ref (gRq Z a 0) :: S) Z I J := gq_getR e_53_67 h h1
theorem e_53_70 : g_Pg 53 70 = ga_getI 4 1 73 := (congrFun pg_53 70).trans rfl
theorem q_53_70 {L : List Value} {a : Nat} {S : List Value} {Z : gZ} {I : gI} {J : gJ} (h : (gKd Z a).1 = 4) : g_at 53 70 L (.ref a :: S) Z I J = g_at 53 73 L (.int (I a 1) :: S) Z I J := gq_getI e_53_70 h
theorem e_53_73 : g_Pg 53 73 = ga_iret := (congrFun pg_53 73).trans rfl
theorem q_53_73 {L : List Value} {x : Int32} {Z : gZ} {I : gI} {J : gJ} : g_at 53 73 L [.int x] Z I J = some (some (.int x), Z, I, J) := gq_iret e_53_73
theorem e_54_0 : g_Pg 54 0 = ga_aload 0 1 := (congrFun pg_54 0).trans rfl
theorem q_54_0 {l1 : Value} {x : Nat} {S : List Value} {Z : gZ} {I : gI} {J : gJ} : g_at 54 0 [.ref x, l1] S Z I J = g_at 54 1 [.ref x, l1] (.ref x :: S) Z I J := gq_aload e_54_0 rfl
theorem e_54_1 : g_Pg 54 1 = ga_getR 6 0 4 := (congrFun pg_54 1).trans rfl
theorem q_54_1 {L : List Value} {a : Nat} {S : List Value} {Z : gZ} {I : gI} {J : gJ} (h : (gKd Z a).1 = 6) (h1 : gRs Z a 0 = true) : g_at 54 1 L (.ref a :: S) Z I J = g_at 54 4 L (.ref (gRq Z a 0) :: S) Z I J := gq_getR e_54_1 h h1
theorem e_54_4 : g_Pg 54 4 = ga_getI 4 1 7 := (congrFun pg_54 4).trans rfl
theorem q_54_4 {L : List Value} {a : Nat} {S : List Value} {Z : gZ} {I : gI} {J : gJ} (h : (gKd Z a).1 = 4) : g_at 54 4 L (.ref a :: S) Z I J = g_at 54 7 L (.int (I a 1) :: S) Z I J := gq_getI e_54_4 h
theorem e_54_7 : g_Pg 54 7 = ga_istore 1 8 := (congrFun pg_54 7).trans rfl
theorem q_54_7 {l0 l1 : Value} {x : Int32} {S : List Value} {Z : gZ} {I : gI} {J : gJ} (h : gN1 l0 = true) : g_at 54 7 [l0, l1] (.int x :: S) Z I J = g_at 54 8 [l0, .int x] S Z I J := gq_istore e_54_7 h rfl rfl
theorem e_54_8 : g_Pg 54 8 = ga_aload 0 9 := (congrFun pg_54 8).trans rfl
theorem q_54_8 {l1 : Value} {x : Nat} {S : List Value} {Z : gZ} {I : gI} {J : gJ} : g_at 54 8 [.ref x, l1] S Z I J = g_at 54 9 [.ref x, l1] (.ref x :: S) Z I J := gq_aload e_54_8 rfl
theorem e_54_9 : g_Pg 54 9 = ga_getR 6 0 12 := (congrFun pg_54 9).trans rfl
theorem q_54_9 {L : List Value} {a : Nat} {S : List Value} {Z : gZ} {I : gI} {J : gJ} (h : (gKd Z a).1 = 6) (h1 : gRs Z a 0 = true) : g_at 54 9 L (.ref a :: S) Z I J = g_at 54 12 L (.ref (gRq Z a 0) :: S) Z I J := gq_getR e_54_9 h h1
theorem e_54_12 : g_Pg 54 12 = ga_push (.int 0) 13 := (congrFun pg_54 12).trans rfl
theorem q_54_12 {L : List Value} {S : List Value} {Z : gZ} {I : gI} {J : gJ} : g_at 54 12 L S Z I J = g_at 54 13 L (.int 0 :: S) Z I J := gq_push e_54_12
theorem e_54_13 : g_Pg 54 13 = ga_putI 4 1 16 := (congrFun pg_54 13).trans rfl
theorem q_54_13 {L : List Value} {a : Nat} {v : Int32} {S : List Value} {Z : gZ} {I : gI} {J : gJ} (h : (gKd Z a).1 = 4) : g_at 54 13 L (.int v :: .ref a :: S) Z I J = g_at 54 16 L S Z (va_up I a (va_up (I a) 1 v)) J := gq_putI e_54_13 h
theorem e_54_16 : g_Pg 54 16 = ga_iload 1 17 := (congrFun pg_54 16).trans rfl
theorem q_54_16 {l0 : Value} {x : Int32} {S : List Value} {Z : gZ} {I : gI} {J : gJ} : g_at 54 16 [l0, .int x] S Z I J = g_at 54 17 [l0, .int x] (.int x :: S) Z I J := gq_iload e_54_16 rfl
theorem e_54_17 : g_Pg 54 17 = ga_iret := (congrFun pg_54 17).trans rfl
theorem q_54_17 {L : List Value} {x : Int32} {Z : gZ} {I : gI} {J : gJ} : g_at 54 17 L [.int x] Z I J = some (some (.int x), Z, I, J) := gq_iret e_54_17
theorem e_55_0 : g_Pg 55 0 = ga_aload 0 1 := (congrFun pg_55 0).trans rfl
theorem q_55_0 {x : Nat} {S : List Value} {Z : gZ} {I : gI} {J : gJ} : g_at 55 0 [.ref x] S Z I J = g_at 55 1 [.ref x] (.ref x :: S) Z I J := gq_aload e_55_0 rfl
theorem e_55_1 : g_Pg 55 1 = ga_getR 6 2 4 := (congrFun pg_55 1).trans rfl
theorem q_55_1 {L : List Value} {a : Nat} {S : List Value} {Z : gZ} {I : gI} {J : gJ} (h : (gKd Z a).1 = 6) (h1 : gRs Z a 2 = true) : g_at 55 1 L (.ref a :: S) Z I J = g_at 55 4 L (.ref (gRq Z a 2) :: S) Z I J := gq_getR e_55_1 h h1
theorem e_55_4 : g_Pg 55 4 = ga_aload 0 5 := (congrFun pg_55 4).trans rfl
theorem q_55_4 {x : Nat} {S : List Value} {Z : gZ} {I : gI} {J : gJ} : g_at 55 4 [.ref x] S Z I J = g_at 55 5 [.ref x] (.ref x :: S) Z I J := gq_aload e_55_4 rfl
theorem e_55_5 : g_Pg 55 5 = ga_getR 6 1 8 := (congrFun pg_55 5).trans rfl
theorem q_55_5 {L : List Value} {a : Nat} {S : List Value} {Z : gZ} {I : gI} {J : gJ} (h : (gKd Z a).1 = 6) (h1 : gRs Z a 1 = true) : g_at 55 5 L (.ref a :: S) Z I J = g_at 55 8 L (.ref (gRq Z a 1) :: S) Z I J := gq_getR e_55_5 h h1
theorem e_55_8 : g_Pg 55 8 = ga_callV 0 2 1 11 := (congrFun pg_55 8).trans rfl
theorem q_55_8 {L : List Value} {a0 : Nat} {a1 : Nat} {Z : gZ} {I : gI} {J : gJ} (h : (gKd Z a1).1 = 0) : g_at 55 8 L [.ref a0, .ref a1] Z I J = (g_at 2 0 [.ref a1, .ref a0] [] Z I J).bind (fun r => g_at 55 11 L (r.1.toList ++ []) r.2.1 r.2.2.1 r.2.2.2) := gq_callV e_55_8 rfl rfl h rfl rfl rfl rfl rfl
theorem e_55_11 : g_Pg 55 11 = ga_aload 0 12 := (congrFun pg_55 11).trans rfl
theorem q_55_11 {x : Nat} {S : List Value} {Z : gZ} {I : gI} {J : gJ} : g_at 55 11 [.ref x] S Z I J = g_at 55 12 [.ref x] (.ref x :: S) Z I J := gq_aload e_55_11 rfl
theorem e_55_12 : g_Pg 55 12 = ga_getR 6 0 15 := (congrFun pg_55 12).trans rfl
theorem q_55_12 {L : List Value} {a : Nat} {S : List Value} {Z : gZ} {I : gI} {J : gJ} (h : (gKd Z a).1 = 6) (h1 : gRs Z a 0 = true) : g_at 55 12 L (.ref a :: S) Z I J = g_at 55 15 L (.ref (gRq Z a 0) :: S) Z I J := gq_getR e_55_12 h h1
theorem e_55_15 : g_Pg 55 15 = ga_aload 0 16 := (congrFun pg_55 15).trans rfl
theorem q_55_15 {x : Nat} {S : List Value} {Z : gZ} {I : gI} {J : gJ} : g_at 55 15 [.ref x] S Z I J = g_at 55 16 [.ref x] (.ref x :: S) Z I J := gq_aload e_55_15 rfl
theorem e_55_16 : g_Pg 55 16 = ga_getR 6 2 19 := (congrFun pg_55 16).trans rfl
theorem q_55_16 {L : List Value} {a : Nat} {S : List Value} {Z : gZ} {I : gI} {J : gJ} (h : (gKd Z a).1 = 6) (h1 : gRs Z a 2 = true) : g_at 55 16 L (.ref a :: S) Z I J = g_at 55 19 L (.ref (gRq Z a 2) :: S) Z I J := gq_getR e_55_16 h h1
theorem e_55_19 : g_Pg 55 19 = ga_callV 4 36 1 22 := (congrFun pg_55 19).trans rfl
theorem q_55_19 {L : List Value} {a0 : Nat} {a1 : Nat} {Z : gZ} {I : gI} {J : gJ} (h : (gKd Z a1).1 = 4) : g_at 55 19 L [.ref a0, .ref a1] Z I J = (g_at 36 0 [.ref a1, .ref a0] [] Z I J).bind (fun r => g_at 55 22 L (r.1.toList ++ []) r.2.1 r.2.2.1 r.2.2.2) := gq_callV e_55_19 rfl rfl h rfl rfl rfl rfl rfl
theorem e_55_22 : g_Pg 55 22 = ga_iret := (congrFun pg_55 22).trans rfl
theorem q_55_22 {L : List Value} {x : Int32} {Z : gZ} {I : gI} {J : gJ} : g_at 55 22 L [.int x] Z I J = some (some (.int x), Z, I, J) := gq_iret e_55_22
theorem e_56_0 : g_Pg 56 0 = ga_aload 0 1 := (congrFun pg_56 0).trans rfl
theorem q_56_0 {l1 : Value} {x : Nat} {S : List Value} {Z : gZ} {I : gI} {J : gJ} : g_at 56 0 [.ref x, l1] S Z I J = g_at 56 1 [.ref x, l1] (.ref x :: S) Z I J := gq_aload e_56_0 rfl
theorem e_56_1 : g_Pg 56 1 = ga_getR 6 2 4 := (congrFun pg_56 1).trans rfl
theorem q_56_1 {L : List Value} {a : Nat} {S : List Value} {Z : gZ} {I : gI} {J : gJ} (h : (gKd Z a).1 = 6) (h1 : gRs Z a 2 = true) : g_at 56 1 L (.ref a :: S) Z I J = g_at 56 4 L (.ref (gRq Z a 2) :: S) Z I J := gq_getR e_56_1 h h1
theorem e_56_4 : g_Pg 56 4 = ga_aload 0 5 := (congrFun pg_56 4).trans rfl
theorem q_56_4 {l1 : Value} {x : Nat} {S : List Value} {Z : gZ} {I : gI} {J : gJ} : g_at 56 4 [.ref x, l1] S Z I J = g_at 56 5 [.ref x, l1] (.ref x :: S) Z I J := gq_aload e_56_4 rfl
theorem e_56_5 : g_Pg 56 5 = ga_getR 6 1 8 := (congrFun pg_56 5).trans rfl
theorem q_56_5 {L : List Value} {a : Nat} {S : List Value} {Z : gZ} {I : gI} {J : gJ} (h : (gKd Z a).1 = 6) (h1 : gRs Z a 1 = true) : g_at 56 5 L (.ref a :: S) Z I J = g_at 56 8 L (.ref (gRq Z a 1) :: S) Z I J := gq_getR e_56_5 h h1
theorem e_56_8 : g_Pg 56 8 = ga_callV 0 2 1 11 := (congrFun pg_56 8).trans rfl
theorem q_56_8 {L : List Value} {a0 : Nat} {a1 : Nat} {Z : gZ} {I : gI} {J : gJ} (h : (gKd Z a1).1 = 0) : g_at 56 8 L [.ref a0, .ref a1] Z I J = (g_at 2 0 [.ref a1, .ref a0] [] Z I J).bind (fun r => g_at 56 11 L (r.1.toList ++ []) r.2.1 r.2.2.1 r.2.2.2) := gq_callV e_56_8 rfl rfl h rfl rfl rfl rfl rfl
theorem e_56_11 : g_Pg 56 11 = ga_aload 0 12 := (congrFun pg_56 11).trans rfl
theorem q_56_11 {l1 : Value} {x : Nat} {S : List Value} {Z : gZ} {I : gI} {J : gJ} : g_at 56 11 [.ref x, l1] S Z I J = g_at 56 12 [.ref x, l1] (.ref x :: S) Z I J := gq_aload e_56_11 rfl
theorem e_56_12 : g_Pg 56 12 = ga_getR 6 0 15 := (congrFun pg_56 12).trans rfl
theorem q_56_12 {L : List Value} {a : Nat} {S : List Value} {Z : gZ} {I : gI} {J : gJ} (h : (gKd Z a).1 = 6) (h1 : gRs Z a 0 = true) : g_at 56 12 L (.ref a :: S) Z I J = g_at 56 15 L (.ref (gRq Z a 0) :: S) Z I J := gq_getR e_56_12 h h1
theorem e_56_15 : g_Pg 56 15 = ga_aload 0 16 := (congrFun pg_56 15).trans rfl
theorem q_56_15 {l1 : Value} {x : Nat} {S : List Value} {Z : gZ} {I : gI} {J : gJ} : g_at 56 15 [.ref x, l1] S Z I J = g_at 56 16 [.ref x, l1] (.ref x :: S) Z I J := gq_aload e_56_15 rfl
theorem e_56_16 : g_Pg 56 16 = ga_getR 6 2 19 := (congrFun pg_56 16).trans rfl
theorem q_56_16 {L : List Value} {a : Nat} {S : List Value} {Z : gZ} {I : gI} {J : gJ} (h : (gKd Z a).1 = 6) (h1 : gRs Z a 2 = true) : g_at 56 16 L (.ref a :: S) Z I J = g_at 56 19 L (.ref (gRq Z a 2) :: S) Z I J := gq_getR e_56_16 h h1
theorem e_56_19 : g_Pg 56 19 = ga_callV 4 36 1 22 := (congrFun pg_56 19).trans rfl
theorem q_56_19 {L : List Value} {a0 : Nat} {a1 : Nat} {Z : gZ} {I : gI} {J : gJ} (h : (gKd Z a1).1 = 4) : g_at 56 19 L [.ref a0, .ref a1] Z I J = (g_at 36 0 [.ref a1, .ref a0] [] Z I J).bind (fun r => g_at 56 22 L (r.1.toList ++ []) r.2.1 r.2.2.1 r.2.2.2) := gq_callV e_56_19 rfl rfl h rfl rfl rfl rfl rfl
theorem e_56_22 : g_Pg 56 22 = ga_push (.int (-1)) 23 := (congrFun pg_56 22).trans rfl
theorem q_56_22 {L : List Value} {S : List Value} {Z : gZ} {I : gI} {J : gJ} : g_at 56 22 L S Z I J = g_at 56 23 L (.int (-1) :: S) Z I J := gq_push e_56_22
theorem e_56_23 : g_Pg 56 23 = ga_cmp (fun x y => decide (x = y)) 29 26 := (congrFun pg_56 23).trans rfl
theorem q_56_23 {L : List Value} {x y : Int32} {S : List Value} {Z : gZ} {I : gI} {J : gJ} : g_at 56 23 L (.int y :: .int x :: S) Z I J = if x = y then g_at 56 29 L S Z I J else g_at 56 26 L S Z I J := gq_cmp e_56_23 rfl
theorem e_56_26 : g_Pg 56 26 = ga_push (.int (-4)) 28 := (congrFun pg_56 26).trans rfl
theorem q_56_26 {L : List Value} {S : List Value} {Z : gZ} {I : gI} {J : gJ} : g_at 56 26 L S Z I J = g_at 56 28 L (.int (-4) :: S) Z I J := gq_push e_56_26
theorem e_56_28 : g_Pg 56 28 = ga_iret := (congrFun pg_56 28).trans rfl
theorem q_56_28 {L : List Value} {x : Int32} {Z : gZ} {I : gI} {J : gJ} : g_at 56 28 L [.int x] Z I J = some (some (.int x), Z, I, J) := gq_iret e_56_28
theorem e_56_29 : g_Pg 56 29 = ga_aload 0 30 := (congrFun pg_56 29).trans rfl
theorem q_56_29 {l1 : Value} {x : Nat} {S : List Value} {Z : gZ} {I : gI} {J : gJ} : g_at 56 29 [.ref x, l1] S Z I J = g_at 56 30 [.ref x, l1] (.ref x :: S) Z I J := gq_aload e_56_29 rfl
theorem e_56_30 : g_Pg 56 30 = ga_getR 6 1 33 := (congrFun pg_56 30).trans rfl
theorem q_56_30 {L : List Value} {a : Nat} {S : List Value} {Z : gZ} {I : gI} {J : gJ} (h : (gKd Z a).1 = 6) (h1 : gRs Z a 1 = true) : g_at 56 30 L (.ref a :: S) Z I J = g_at 56 33 L (.ref (gRq Z a 1) :: S) Z I J := gq_getR e_56_30 h h1
theorem e_56_33 : g_Pg 56 33 = ga_aload 0 34 := (congrFun pg_56 33).trans rfl
theorem q_56_33 {l1 : Value} {x : Nat} {S : List Value} {Z : gZ} {I : gI} {J : gJ} : g_at 56 33 [.ref x, l1] S Z I J = g_at 56 34 [.ref x, l1] (.ref x :: S) Z I J := gq_aload e_56_33 rfl
theorem e_56_34 : g_Pg 56 34 = ga_getR 6 2 37 := (congrFun pg_56 34).trans rfl
theorem q_56_34 {L : List Value} {a : Nat} {S : List Value} {Z : gZ} {I : gI} {J : gJ} (h : (gKd Z a).1 = 6) (h1 : gRs Z a 2 = true) : g_at 56 34 L (.ref a :: S) Z I J = g_at 56 37 L (.ref (gRq Z a 2) :: S) Z I J := gq_getR e_56_34 h h1
theorem e_56_37 : g_Pg 56 37 = ga_callV 0 2 1 40 := (congrFun pg_56 37).trans rfl
theorem q_56_37 {L : List Value} {a0 : Nat} {a1 : Nat} {Z : gZ} {I : gI} {J : gJ} (h : (gKd Z a1).1 = 0) : g_at 56 37 L [.ref a0, .ref a1] Z I J = (g_at 2 0 [.ref a1, .ref a0] [] Z I J).bind (fun r => g_at 56 40 L (r.1.toList ++ []) r.2.1 r.2.2.1 r.2.2.2) := gq_callV e_56_37 rfl rfl h rfl rfl rfl rfl rfl
theorem e_56_40 : g_Pg 56 40 = ga_aload 0 41 := (congrFun pg_56 40).trans rfl
theorem q_56_40 {l1 : Value} {x : Nat} {S : List Value} {Z : gZ} {I : gI} {J : gJ} : g_at 56 40 [.ref x, l1] S Z I J = g_at 56 41 [.ref x, l1] (.ref x :: S) Z I J := gq_aload e_56_40 rfl
theorem e_56_41 : g_Pg 56 41 = ga_getR 6 0 44 := (congrFun pg_56 41).trans rfl
theorem q_56_41 {L : List Value} {a : Nat} {S : List Value} {Z : gZ} {I : gI} {J : gJ} (h : (gKd Z a).1 = 6) (h1 : gRs Z a 0 = true) : g_at 56 41 L (.ref a :: S) Z I J = g_at 56 44 L (.ref (gRq Z a 0) :: S) Z I J := gq_getR e_56_41 h h1
theorem e_56_44 : g_Pg 56 44 = ga_push (.int 0) 45 := (congrFun pg_56 44).trans rfl
theorem q_56_44 {L : List Value} {S : List Value} {Z : gZ} {I : gI} {J : gJ} : g_at 56 44 L S Z I J = g_at 56 45 L (.int 0 :: S) Z I J := gq_push e_56_44
theorem e_56_45 : g_Pg 56 45 = ga_putI 4 1 48 := (congrFun pg_56 45).trans rfl
theorem q_56_45 {L : List Value} {a : Nat} {v : Int32} {S : List Value} {Z : gZ} {I : gI} {J : gJ} (h : (gKd Z a).1 = 4) : g_at 56 45 L (.int v :: .ref a :: S) Z I J = g_at 56 48 L S Z (va_up I a (va_up (I a) 1 v)) J := gq_putI e_56_45 h
theorem e_56_48 : g_Pg 56 48 = ga_aload 0 49 := (congrFun pg_56 48).trans rfl
theorem q_56_48 {l1 : Value} {x : Nat} {S : List Value} {Z : gZ} {I : gI} {J : gJ} : g_at 56 48 [.ref x, l1] S Z I J = g_at 56 49 [.ref x, l1] (.ref x :: S) Z I J := gq_aload e_56_48 rfl
theorem e_56_49 : g_Pg 56 49 = ga_getR 6 3 52 := (congrFun pg_56 49).trans rfl
theorem q_56_49 {L : List Value} {a : Nat} {S : List Value} {Z : gZ} {I : gI} {J : gJ} (h : (gKd Z a).1 = 6) (h1 : gRs Z a 3 = true) : g_at 56 49 L (.ref a :: S) Z I J = g_at 56 52 L (.ref (gRq Z a 3) :: S) Z I J := gq_getR e_56_49 h h1
theorem e_56_52 : g_Pg 56 52 = ga_aload 0 53 := (congrFun pg_56 52).trans rfl
theorem q_56_52 {l1 : Value} {x : Nat} {S : List Value} {Z : gZ} {I : gI} {J : gJ} : g_at 56 52 [.ref x, l1] S Z I J = g_at 56 53 [.ref x, l1] (.ref x :: S) Z I J := gq_aload e_56_52 rfl
theorem e_56_53 : g_Pg 56 53 = ga_getR 6 1 56 := (congrFun pg_56 53).trans rfl
theorem q_56_53 {L : List Value} {a : Nat} {S : List Value} {Z : gZ} {I : gI} {J : gJ} (h : (gKd Z a).1 = 6) (h1 : gRs Z a 1 = true) : g_at 56 53 L (.ref a :: S) Z I J = g_at 56 56 L (.ref (gRq Z a 1) :: S) Z I J := gq_getR e_56_53 h h1
theorem e_56_56 : g_Pg 56 56 = ga_getI 0 5 59 := (congrFun pg_56 56).trans rfl
theorem q_56_56 {L : List Value} {a : Nat} {S : List Value} {Z : gZ} {I : gI} {J : gJ} (h : (gKd Z a).1 = 0) : g_at 56 56 L (.ref a :: S) Z I J = g_at 56 59 L (.int (I a 5) :: S) Z I J := gq_getI e_56_56 h
theorem e_56_59 : g_Pg 56 59 = ga_callV 2 23 1 62 := (congrFun pg_56 59).trans rfl
theorem q_56_59 {L : List Value} {a0 : Int32} {a1 : Nat} {Z : gZ} {I : gI} {J : gJ} (h : (gKd Z a1).1 = 2) : g_at 56 59 L [.int a0, .ref a1] Z I J = (g_at 23 0 [.ref a1, .int a0, .null] [] Z I J).bind (fun r => g_at 56 62 L (r.1.toList ++ []) r.2.1 r.2.2.1 r.2.2.2) := gq_callV e_56_59 rfl rfl h rfl rfl rfl rfl rfl
theorem e_56_62 : g_Pg 56 62 = ga_aload 0 63 := (congrFun pg_56 62).trans rfl
theorem q_56_62 {l1 : Value} {x : Nat} {S : List Value} {Z : gZ} {I : gI} {J : gJ} : g_at 56 62 [.ref x, l1] S Z I J = g_at 56 63 [.ref x, l1] (.ref x :: S) Z I J := gq_aload e_56_62 rfl
theorem e_56_63 : g_Pg 56 63 = ga_getR 6 6 66 := (congrFun pg_56 63).trans rfl
theorem q_56_63 {L : List Value} {a : Nat} {S : List Value} {Z : gZ} {I : gI} {J : gJ} (h : (gKd Z a).1 = 6) (h1 : gRs Z a 6 = true) : g_at 56 63 L (.ref a :: S) Z I J = g_at 56 66 L (.ref (gRq Z a 6) :: S) Z I J := gq_getR e_56_63 h h1
theorem e_56_66 : g_Pg 56 66 = ga_push (.int 0) 67 := (congrFun pg_56 66).trans rfl
theorem q_56_66 {L : List Value} {S : List Value} {Z : gZ} {I : gI} {J : gJ} : g_at 56 66 L S Z I J = g_at 56 67 L (.int 0 :: S) Z I J := gq_push e_56_66
theorem e_56_67 : g_Pg 56 67 = ga_putI 3 2 70 := (congrFun pg_56 67).trans rfl
theorem q_56_67 {L : List Value} {a : Nat} {v : Int32} {S : List Value} {Z : gZ} {I : gI} {J : gJ} (h : (gKd Z a).1 = 3) : g_at 56 67 L (.int v :: .ref a :: S) Z I J = g_at 56 70 L S Z (va_up I a (va_up (I a) 2 v)) J := gq_putI e_56_67 h
theorem e_56_70 : g_Pg 56 70 = ga_push (.int 0) 71 := (congrFun pg_56 70).trans rfl
theorem q_56_70 {L : List Value} {S : List Value} {Z : gZ} {I : gI} {J : gJ} : g_at 56 70 L S Z I J = g_at 56 71 L (.int 0 :: S) Z I J := gq_push e_56_70
theorem e_56_71 : g_Pg 56 71 = ga_istore 1 72 := (congrFun pg_56 71).trans rfl
theorem q_56_71 {l0 l1 : Value} {x : Int32} {S : List Value} {Z : gZ} {I : gI} {J : gJ} (h : gN1 l0 = true) : g_at 56 71 [l0, l1] (.int x :: S) Z I J = g_at 56 72 [l0, .int x] S Z I J := gq_istore e_56_71 h rfl rfl
theorem e_56_72 : g_Pg 56 72 = ga_iload 1 73 := (congrFun pg_56 72).trans rfl
theorem q_56_72 {l0 : Value} {x : Int32} {S : List Value} {Z : gZ} {I : gI} {J : gJ} : g_at 56 72 [l0, .int x] S Z I J = g_at 56 73 [l0, .int x] (.int x :: S) Z I J := gq_iload e_56_72 rfl
theorem e_56_73 : g_Pg 56 73 = ga_push (.int 2) 74 := (congrFun pg_56 73).trans rfl
theorem q_56_73 {L : List Value} {S : List Value} {Z : gZ} {I : gI} {J : gJ} : g_at 56 73 L S Z I J = g_at 56 74 L (.int 2 :: S) Z I J := gq_push e_56_73
theorem e_56_74 : g_Pg 56 74 = ga_cmp (fun x y => decide (y ≤ x)) 90 77 := (congrFun pg_56 74).trans rfl
theorem q_56_74 {L : List Value} {x y : Int32} {S : List Value} {Z : gZ} {I : gI} {J : gJ} : g_at 56 74 L (.int y :: .int x :: S) Z I J = if y ≤ x then g_at 56 90 L S Z I J else g_at 56 77 L S Z I J := gq_cmp e_56_74 rfl
theorem e_56_77 : g_Pg 56 77 = ga_aload 0 78 := (congrFun pg_56 77).trans rfl
theorem q_56_77 {l1 : Value} {x : Nat} {S : List Value} {Z : gZ} {I : gI} {J : gJ} : g_at 56 77 [.ref x, l1] S Z I J = g_at 56 78 [.ref x, l1] (.ref x :: S) Z I J := gq_aload e_56_77 rfl
theorem e_56_78 : g_Pg 56 78 = ga_getR 6 5 81 := (congrFun pg_56 78).trans rfl
theorem q_56_78 {L : List Value} {a : Nat} {S : List Value} {Z : gZ} {I : gI} {J : gJ} (h : (gKd Z a).1 = 6) (h1 : gRs Z a 5 = true) : g_at 56 78 L (.ref a :: S) Z I J = g_at 56 81 L (.ref (gRq Z a 5) :: S) Z I J := gq_getR e_56_78 h h1
theorem e_56_81 : g_Pg 56 81 = ga_iload 1 82 := (congrFun pg_56 81).trans rfl
theorem q_56_81 {l0 : Value} {x : Int32} {S : List Value} {Z : gZ} {I : gI} {J : gJ} : g_at 56 81 [l0, .int x] S Z I J = g_at 56 82 [l0, .int x] (.int x :: S) Z I J := gq_iload e_56_81 rfl
theorem e_56_82 : g_Pg 56 82 = ga_push (.int 0) 83 := (congrFun pg_56 82).trans rfl
theorem q_56_82 {L : List Value} {S : List Value} {Z : gZ} {I : gI} {J : gJ} : g_at 56 82 L S Z I J = g_at 56 83 L (.int 0 :: S) Z I J := gq_push e_56_82
theorem e_56_83 : g_Pg 56 83 = ga_bast 84 := (congrFun pg_56 83).trans rfl
theorem q_56_83 {L : List Value} {a : Nat} {i : Int32} {v : Int32} {S : List Value} {Z : gZ} {I : gI} {J : gJ} (h : (gKd Z a).1 = 9) (h0 : 0 ≤ i) (h1 : i.toNatClampNeg < (gKd Z a).2) (h2 : gB01 v = true) : g_at 56 83 L (.int v :: .int i :: .ref a :: S) Z I J = g_at 56 84 L S Z (va_up I a (va_up (I a) i.toNatClampNeg v)) J := gq_bast e_56_83 h h0 h1 h2
theorem e_56_84 : g_Pg 56 84 = ga_iinc 1 1 87 := (congrFun pg_56 84).trans rfl
theorem q_56_84 {l0 : Value} {x : Int32} {S : List Value} {Z : gZ} {I : gI} {J : gJ} (h : gN1 l0 = true) : g_at 56 84 [l0, .int x] S Z I J = g_at 56 87 [l0, .int (x + 1)] S Z I J := gq_iinc e_56_84 rfl h rfl
theorem e_56_87 : g_Pg 56 87 = ga_goto 72 := (congrFun pg_56 87).trans rfl
theorem q_56_87 {L : List Value} {S : List Value} {Z : gZ} {I : gI} {J : gJ} : g_at 56 87 L S Z I J = g_at 56 72 L S Z I J := gq_goto e_56_87
theorem e_56_90 : g_Pg 56 90 = ga_aload 0 91 := (congrFun pg_56 90).trans rfl
theorem q_56_90 {l1 : Value} {x : Nat} {S : List Value} {Z : gZ} {I : gI} {J : gJ} : g_at 56 90 [.ref x, l1] S Z I J = g_at 56 91 [.ref x, l1] (.ref x :: S) Z I J := gq_aload e_56_90 rfl
theorem e_56_91 : g_Pg 56 91 = ga_getR 6 0 94 := (congrFun pg_56 91).trans rfl
theorem q_56_91 {L : List Value} {a : Nat} {S : List Value} {Z : gZ} {I : gI} {J : gJ} (h : (gKd Z a).1 = 6) (h1 : gRs Z a 0 = true) : g_at 56 91 L (.ref a :: S) Z I J = g_at 56 94 L (.ref (gRq Z a 0) :: S) Z I J := gq_getR e_56_91 h h1
theorem e_56_94 : g_Pg 56 94 = ga_getI 4 2 97 := (congrFun pg_56 94).trans rfl
theorem q_56_94 {L : List Value} {a : Nat} {S : List Value} {Z : gZ} {I : gI} {J : gJ} (h : (gKd Z a).1 = 4) : g_at 56 94 L (.ref a :: S) Z I J = g_at 56 97 L (.int (I a 2) :: S) Z I J := gq_getI e_56_94 h
theorem e_56_97 : g_Pg 56 97 = ga_iret := (congrFun pg_56 97).trans rfl
theorem q_56_97 {L : List Value} {x : Int32} {Z : gZ} {I : gI} {J : gJ} : g_at 56 97 L [.int x] Z I J = some (some (.int x), Z, I, J) := gq_iret e_56_97
theorem e_57_0 : g_Pg 57 0 = ga_aload 0 1 := (congrFun pg_57 0).trans rfl
theorem q_57_0 {l1 l2 : Value} {x : Nat} {S : List Value} {Z : gZ} {I : gI} {J : gJ} : g_at 57 0 [.ref x, l1, l2] S Z I J = g_at 57 1 [.ref x, l1, l2] (.ref x :: S) Z I J := gq_aload e_57_0 rfl
theorem e_57_1 : g_Pg 57 1 = ga_getR 6 1 4 := (congrFun pg_57 1).trans rfl
theorem q_57_1 {L : List Value} {a : Nat} {S : List Value} {Z : gZ} {I : gI} {J : gJ} (h : (gKd Z a).1 = 6) (h1 : gRs Z a 1 = true) : g_at 57 1 L (.ref a :: S) Z I J = g_at 57 4 L (.ref (gRq Z a 1) :: S) Z I J := gq_getR e_57_1 h h1
theorem e_57_4 : g_Pg 57 4 = ga_iload 1 5 := (congrFun pg_57 4).trans rfl
theorem q_57_4 {l0 l2 : Value} {x : Int32} {S : List Value} {Z : gZ} {I : gI} {J : gJ} : g_at 57 4 [l0, .int x, l2] S Z I J = g_at 57 5 [l0, .int x, l2] (.int x :: S) Z I J := gq_iload e_57_4 rfl
theorem e_57_5 : g_Pg 57 5 = ga_callV 0 3 1 8 := (congrFun pg_57 5).trans rfl
theorem q_57_5 {L : List Value} {a0 : Int32} {a1 : Nat} {Z : gZ} {I : gI} {J : gJ} (h : (gKd Z a1).1 = 0) : g_at 57 5 L [.int a0, .ref a1] Z I J = (g_at 3 0 [.ref a1, .int a0] [] Z I J).bind (fun r => g_at 57 8 L (r.1.toList ++ []) r.2.1 r.2.2.1 r.2.2.2) := gq_callV e_57_5 rfl rfl h rfl rfl rfl rfl rfl
theorem e_57_8 : g_Pg 57 8 = ga_if (fun x => decide (¬ x = 0)) 14 11 := (congrFun pg_57 8).trans rfl
theorem q_57_8 {L : List Value} {x : Int32} {S : List Value} {Z : gZ} {I : gI} {J : gJ} : g_at 57 8 L (.int x :: S) Z I J = if ¬ x = 0 then g_at 57 14 L S Z I J else g_at 57 11 L S Z I J := gq_if e_57_8 rfl
theorem e_57_11 : g_Pg 57 11 = ga_push (.int (-2)) 13 := (congrFun pg_57 11).trans rfl
theorem q_57_11 {L : List Value} {S : List Value} {Z : gZ} {I : gI} {J : gJ} : g_at 57 11 L S Z I J = g_at 57 13 L (.int (-2) :: S) Z I J := gq_push e_57_11
theorem e_57_13 : g_Pg 57 13 = ga_iret := (congrFun pg_57 13).trans rfl
theorem q_57_13 {L : List Value} {x : Int32} {Z : gZ} {I : gI} {J : gJ} : g_at 57 13 L [.int x] Z I J = some (some (.int x), Z, I, J) := gq_iret e_57_13
theorem e_57_14 : g_Pg 57 14 = ga_iload 2 15 := (congrFun pg_57 14).trans rfl
theorem q_57_14 {l0 l1 : Value} {x : Int32} {S : List Value} {Z : gZ} {I : gI} {J : gJ} : g_at 57 14 [l0, l1, .int x] S Z I J = g_at 57 15 [l0, l1, .int x] (.int x :: S) Z I J := gq_iload e_57_14 rfl
theorem e_57_15 : g_Pg 57 15 = ga_switch 0 [48, 58, 68, 92, 102] 111 := (congrFun pg_57 15).trans rfl
theorem q_57_15 {L : List Value} {x : Int32} {S : List Value} {Z : gZ} {I : gI} {J : gJ} : g_at 57 15 L (.int x :: S) Z I J = if x = 0 then g_at 57 48 L S Z I J else if x = 1 then g_at 57 58 L S Z I J else if x = 2 then g_at 57 68 L S Z I J else if x = 3 then g_at 57 92 L S Z I J else if x = 4 then g_at 57 102 L S Z I J else g_at 57 111 L S Z I J := (gq_switch e_57_15).trans (gsw_cons (F := fun q => g_at 57 q L S Z I J) (lo := 0) (lo' := 1) (v := 0) rfl rfl (gsw_cons (F := fun q => g_at 57 q L S Z I J) (lo := 1) (lo' := 2) (v := 1) rfl rfl (gsw_cons (F := fun q => g_at 57 q L S Z I J) (lo := 2) (lo' := 3) (v := 2) rfl rfl (gsw_cons (F := fun q => g_at 57 q L S Z I J) (lo := 3) (lo' := 4) (v := 3) rfl rfl (gsw_cons (F := fun q => g_at 57 q L S Z I J) (lo := 4) (lo' := 5) (v := 4) rfl rfl rfl)))))
theorem e_57_48 : g_Pg 57 48 = ga_aload 0 49 := (congrFun pg_57 48).trans rfl
theorem q_57_48 {l1 l2 : Value} {x : Nat} {S : List Value} {Z : gZ} {I : gI} {J : gJ} : g_at 57 48 [.ref x, l1, l2] S Z I J = g_at 57 49 [.ref x, l1, l2] (.ref x :: S) Z I J := gq_aload e_57_48 rfl
theorem e_57_49 : g_Pg 57 49 = ga_getR 6 1 52 := (congrFun pg_57 49).trans rfl
theorem q_57_49 {L : List Value} {a : Nat} {S : List Value} {Z : gZ} {I : gI} {J : gJ} (h : (gKd Z a).1 = 6) (h1 : gRs Z a 1 = true) : g_at 57 49 L (.ref a :: S) Z I J = g_at 57 52 L (.ref (gRq Z a 1) :: S) Z I J := gq_getR e_57_49 h h1
theorem e_57_52 : g_Pg 57 52 = ga_getR 0 0 55 := (congrFun pg_57 52).trans rfl
theorem q_57_52 {L : List Value} {a : Nat} {S : List Value} {Z : gZ} {I : gI} {J : gJ} (h : (gKd Z a).1 = 0) (h1 : gRs Z a 0 = true) : g_at 57 52 L (.ref a :: S) Z I J = g_at 57 55 L (.ref (gRq Z a 0) :: S) Z I J := gq_getR e_57_52 h h1
theorem e_57_55 : g_Pg 57 55 = ga_iload 1 56 := (congrFun pg_57 55).trans rfl
theorem q_57_55 {l0 l2 : Value} {x : Int32} {S : List Value} {Z : gZ} {I : gI} {J : gJ} : g_at 57 55 [l0, .int x, l2] S Z I J = g_at 57 56 [l0, .int x, l2] (.int x :: S) Z I J := gq_iload e_57_55 rfl
theorem e_57_56 : g_Pg 57 56 = ga_iald 57 := (congrFun pg_57 56).trans rfl
theorem q_57_56 {L : List Value} {a : Nat} {i : Int32} {S : List Value} {Z : gZ} {I : gI} {J : gJ} (h : gTg8 (gKd Z a).1 a = true) (h0 : 0 ≤ i) (h1 : i.toNatClampNeg < (gKd Z a).2) : g_at 57 56 L (.int i :: .ref a :: S) Z I J = g_at 57 57 L (.int (I a i.toNatClampNeg) :: S) Z I J := gq_iald e_57_56 h h0 h1
theorem e_57_57 : g_Pg 57 57 = ga_iret := (congrFun pg_57 57).trans rfl
theorem q_57_57 {L : List Value} {x : Int32} {Z : gZ} {I : gI} {J : gJ} : g_at 57 57 L [.int x] Z I J = some (some (.int x), Z, I, J) := gq_iret e_57_57
theorem e_57_58 : g_Pg 57 58 = ga_aload 0 59 := (congrFun pg_57 58).trans rfl
theorem q_57_58 {l1 l2 : Value} {x : Nat} {S : List Value} {Z : gZ} {I : gI} {J : gJ} : g_at 57 58 [.ref x, l1, l2] S Z I J = g_at 57 59 [.ref x, l1, l2] (.ref x :: S) Z I J := gq_aload e_57_58 rfl
theorem e_57_59 : g_Pg 57 59 = ga_getR 6 1 62 := (congrFun pg_57 59).trans rfl
theorem q_57_59 {L : List Value} {a : Nat} {S : List Value} {Z : gZ} {I : gI} {J : gJ} (h : (gKd Z a).1 = 6) (h1 : gRs Z a 1 = true) : g_at 57 59 L (.ref a :: S) Z I J = g_at 57 62 L (.ref (gRq Z a 1) :: S) Z I J := gq_getR e_57_59 h h1
theorem e_57_62 : g_Pg 57 62 = ga_getR 0 1 65 := (congrFun pg_57 62).trans rfl
theorem q_57_62 {L : List Value} {a : Nat} {S : List Value} {Z : gZ} {I : gI} {J : gJ} (h : (gKd Z a).1 = 0) (h1 : gRs Z a 1 = true) : g_at 57 62 L (.ref a :: S) Z I J = g_at 57 65 L (.ref (gRq Z a 1) :: S) Z I J := gq_getR e_57_62 h h1
theorem e_57_65 : g_Pg 57 65 = ga_iload 1 66 := (congrFun pg_57 65).trans rfl
theorem q_57_65 {l0 l2 : Value} {x : Int32} {S : List Value} {Z : gZ} {I : gI} {J : gJ} : g_at 57 65 [l0, .int x, l2] S Z I J = g_at 57 66 [l0, .int x, l2] (.int x :: S) Z I J := gq_iload e_57_65 rfl
theorem e_57_66 : g_Pg 57 66 = ga_iald 67 := (congrFun pg_57 66).trans rfl
theorem q_57_66 {L : List Value} {a : Nat} {i : Int32} {S : List Value} {Z : gZ} {I : gI} {J : gJ} (h : gTg8 (gKd Z a).1 a = true) (h0 : 0 ≤ i) (h1 : i.toNatClampNeg < (gKd Z a).2) : g_at 57 66 L (.int i :: .ref a :: S) Z I J = g_at 57 67 L (.int (I a i.toNatClampNeg) :: S) Z I J := gq_iald e_57_66 h h0 h1
theorem e_57_67 : g_Pg 57 67 = ga_iret := (congrFun pg_57 67).trans rfl
theorem q_57_67 {L : List Value} {x : Int32} {Z : gZ} {I : gI} {J : gJ} : g_at 57 67 L [.int x] Z I J = some (some (.int x), Z, I, J) := gq_iret e_57_67
theorem e_57_68 : g_Pg 57 68 = ga_aload 0 69 := (congrFun pg_57 68).trans rfl
theorem q_57_68 {l1 l2 : Value} {x : Nat} {S : List Value} {Z : gZ} {I : gI} {J : gJ} : g_at 57 68 [.ref x, l1, l2] S Z I J = g_at 57 69 [.ref x, l1, l2] (.ref x :: S) Z I J := gq_aload e_57_68 rfl
theorem e_57_69 : g_Pg 57 69 = ga_getR 6 1 72 := (congrFun pg_57 69).trans rfl
theorem q_57_69 {L : List Value} {a : Nat} {S : List Value} {Z : gZ} {I : gI} {J : gJ} (h : (gKd Z a).1 = 6) (h1 : gRs Z a 1 = true) : g_at 57 69 L (.ref a :: S) Z I J = g_at 57 72 L (.ref (gRq Z a 1) :: S) Z I J := gq_getR e_57_69 h h1
theorem e_57_72 : g_Pg 57 72 = ga_iload 1 73 := (congrFun pg_57 72).trans rfl
theorem q_57_72 {l0 l2 : Value} {x : Int32} {S : List Value} {Z : gZ} {I : gI} {J : gJ} : g_at 57 72 [l0, .int x, l2] S Z I J = g_at 57 73 [l0, .int x, l2] (.int x :: S) Z I J := gq_iload e_57_72 rfl
theorem e_57_73 : g_Pg 57 73 = ga_aload 0 74 := (congrFun pg_57 73).trans rfl
theorem q_57_73 {l1 l2 : Value} {x : Nat} {S : List Value} {Z : gZ} {I : gI} {J : gJ} : g_at 57 73 [.ref x, l1, l2] S Z I J = g_at 57 74 [.ref x, l1, l2] (.ref x :: S) Z I J := gq_aload e_57_73 rfl
theorem e_57_74 : g_Pg 57 74 = ga_getR 6 3 77 := (congrFun pg_57 74).trans rfl
theorem q_57_74 {L : List Value} {a : Nat} {S : List Value} {Z : gZ} {I : gI} {J : gJ} (h : (gKd Z a).1 = 6) (h1 : gRs Z a 3 = true) : g_at 57 74 L (.ref a :: S) Z I J = g_at 57 77 L (.ref (gRq Z a 3) :: S) Z I J := gq_getR e_57_74 h h1
theorem e_57_77 : g_Pg 57 77 = ga_getI 2 4 80 := (congrFun pg_57 77).trans rfl
theorem q_57_77 {L : List Value} {a : Nat} {S : List Value} {Z : gZ} {I : gI} {J : gJ} (h : (gKd Z a).1 = 2) : g_at 57 77 L (.ref a :: S) Z I J = g_at 57 80 L (.int (I a 4) :: S) Z I J := gq_getI e_57_77 h
theorem e_57_80 : g_Pg 57 80 = ga_callV 0 4 2 83 := (congrFun pg_57 80).trans rfl
theorem q_57_80 {L : List Value} {a0 : Int32} {a1 : Int32} {a2 : Nat} {Z : gZ} {I : gI} {J : gJ} (h : (gKd Z a2).1 = 0) : g_at 57 80 L [.int a0, .int a1, .ref a2] Z I J = (g_at 4 0 [.ref a2, .int a1, .int a0] [] Z I J).bind (fun r => g_at 57 83 L (r.1.toList ++ []) r.2.1 r.2.2.1 r.2.2.2) := gq_callV e_57_80 rfl rfl h rfl rfl rfl rfl rfl
theorem e_57_83 : g_Pg 57 83 = ga_if (fun x => decide (x = 0)) 90 86 := (congrFun pg_57 83).trans rfl
theorem q_57_83 {L : List Value} {x : Int32} {S : List Value} {Z : gZ} {I : gI} {J : gJ} : g_at 57 83 L (.int x :: S) Z I J = if x = 0 then g_at 57 90 L S Z I J else g_at 57 86 L S Z I J := gq_if e_57_83 rfl
theorem e_57_86 : g_Pg 57 86 = ga_push (.int 1) 87 := (congrFun pg_57 86).trans rfl
theorem q_57_86 {L : List Value} {S : List Value} {Z : gZ} {I : gI} {J : gJ} : g_at 57 86 L S Z I J = g_at 57 87 L (.int 1 :: S) Z I J := gq_push e_57_86
theorem e_57_87 : g_Pg 57 87 = ga_goto 91 := (congrFun pg_57 87).trans rfl
theorem q_57_87 {L : List Value} {S : List Value} {Z : gZ} {I : gI} {J : gJ} : g_at 57 87 L S Z I J = g_at 57 91 L S Z I J := gq_goto e_57_87
theorem e_57_90 : g_Pg 57 90 = ga_push (.int 0) 91 := (congrFun pg_57 90).trans rfl
theorem q_57_90 {L : List Value} {S : List Value} {Z : gZ} {I : gI} {J : gJ} : g_at 57 90 L S Z I J = g_at 57 91 L (.int 0 :: S) Z I J := gq_push e_57_90
theorem e_57_91 : g_Pg 57 91 = ga_iret := (congrFun pg_57 91).trans rfl
theorem q_57_91 {L : List Value} {x : Int32} {Z : gZ} {I : gI} {J : gJ} : g_at 57 91 L [.int x] Z I J = some (some (.int x), Z, I, J) := gq_iret e_57_91
theorem e_57_92 : g_Pg 57 92 = ga_aload 0 93 := (congrFun pg_57 92).trans rfl
theorem q_57_92 {l1 l2 : Value} {x : Nat} {S : List Value} {Z : gZ} {I : gI} {J : gJ} : g_at 57 92 [.ref x, l1, l2] S Z I J = g_at 57 93 [.ref x, l1, l2] (.ref x :: S) Z I J := gq_aload e_57_92 rfl
theorem e_57_93 : g_Pg 57 93 = ga_getR 6 3 96 := (congrFun pg_57 93).trans rfl
theorem q_57_93 {L : List Value} {a : Nat} {S : List Value} {Z : gZ} {I : gI} {J : gJ} (h : (gKd Z a).1 = 6) (h1 : gRs Z a 3 = true) : g_at 57 93 L (.ref a :: S) Z I J = g_at 57 96 L (.ref (gRq Z a 3) :: S) Z I J := gq_getR e_57_93 h h1
theorem e_57_96 : g_Pg 57 96 = ga_getR 2 1 99 := (congrFun pg_57 96).trans rfl
theorem q_57_96 {L : List Value} {a : Nat} {S : List Value} {Z : gZ} {I : gI} {J : gJ} (h : (gKd Z a).1 = 2) (h1 : gRs Z a 1 = true) : g_at 57 96 L (.ref a :: S) Z I J = g_at 57 99 L (.ref (gRq Z a 1) :: S) Z I J := gq_getR e_57_96 h h1
theorem e_57_99 : g_Pg 57 99 = ga_iload 1 100 := (congrFun pg_57 99).trans rfl
theorem q_57_99 {l0 l2 : Value} {x : Int32} {S : List Value} {Z : gZ} {I : gI} {J : gJ} : g_at 57 99 [l0, .int x, l2] S Z I J = g_at 57 100 [l0, .int x, l2] (.int x :: S) Z I J := gq_iload e_57_99 rfl
theorem e_57_100 : g_Pg 57 100 = ga_iald 101 := (congrFun pg_57 100).trans rfl
theorem q_57_100 {L : List Value} {a : Nat} {i : Int32} {S : List Value} {Z : gZ} {I : gI} {J : gJ} (h : gTg8 (gKd Z a).1 a = true) (h0 : 0 ≤ i) (h1 : i.toNatClampNeg < (gKd Z a).2) : g_at 57 100 L (.int i :: .ref a :: S) Z I J = g_at 57 101 L (.int (I a i.toNatClampNeg) :: S) Z I J := gq_iald e_57_100 h h0 h1
theorem e_57_101 : g_Pg 57 101 = ga_iret := (congrFun pg_57 101).trans rfl
theorem q_57_101 {L : List Value} {x : Int32} {Z : gZ} {I : gI} {J : gJ} : g_at 57 101 L [.int x] Z I J = some (some (.int x), Z, I, J) := gq_iret e_57_101
theorem e_57_102 : g_Pg 57 102 = ga_aload 0 103 := (congrFun pg_57 102).trans rfl
theorem q_57_102 {l1 l2 : Value} {x : Nat} {S : List Value} {Z : gZ} {I : gI} {J : gJ} : g_at 57 102 [.ref x, l1, l2] S Z I J = g_at 57 103 [.ref x, l1, l2] (.ref x :: S) Z I J := gq_aload e_57_102 rfl
theorem e_57_103 : g_Pg 57 103 = ga_getR 6 3 106 := (congrFun pg_57 103).trans rfl
theorem q_57_103 {L : List Value} {a : Nat} {S : List Value} {Z : gZ} {I : gI} {J : gJ} (h : (gKd Z a).1 = 6) (h1 : gRs Z a 3 = true) : g_at 57 103 L (.ref a :: S) Z I J = g_at 57 106 L (.ref (gRq Z a 3) :: S) Z I J := gq_getR e_57_103 h h1
theorem e_57_106 : g_Pg 57 106 = ga_iload 1 107 := (congrFun pg_57 106).trans rfl
theorem q_57_106 {l0 l2 : Value} {x : Int32} {S : List Value} {Z : gZ} {I : gI} {J : gJ} : g_at 57 106 [l0, .int x, l2] S Z I J = g_at 57 107 [l0, .int x, l2] (.int x :: S) Z I J := gq_iload e_57_106 rfl
theorem e_57_107 : g_Pg 57 107 = ga_callV 2 28 1 110 := (congrFun pg_57 107).trans rfl
theorem q_57_107 {L : List Value} {a0 : Int32} {a1 : Nat} {Z : gZ} {I : gI} {J : gJ} (h : (gKd Z a1).1 = 2) : g_at 57 107 L [.int a0, .ref a1] Z I J = (g_at 28 0 [.ref a1, .int a0, .null] [] Z I J).bind (fun r => g_at 57 110 L (r.1.toList ++ []) r.2.1 r.2.2.1 r.2.2.2) := gq_callV e_57_107 rfl rfl h rfl rfl rfl rfl rfl
theorem e_57_110 : g_Pg 57 110 = ga_iret := (congrFun pg_57 110).trans rfl
theorem q_57_110 {L : List Value} {x : Int32} {Z : gZ} {I : gI} {J : gJ} : g_at 57 110 L [.int x] Z I J = some (some (.int x), Z, I, J) := gq_iret e_57_110
theorem e_57_111 : g_Pg 57 111 = ga_push (.int (-3)) 113 := (congrFun pg_57 111).trans rfl
theorem q_57_111 {L : List Value} {S : List Value} {Z : gZ} {I : gI} {J : gJ} : g_at 57 111 L S Z I J = g_at 57 113 L (.int (-3) :: S) Z I J := gq_push e_57_111
theorem e_57_113 : g_Pg 57 113 = ga_iret := (congrFun pg_57 113).trans rfl
theorem q_57_113 {L : List Value} {x : Int32} {Z : gZ} {I : gI} {J : gJ} : g_at 57 113 L [.int x] Z I J = some (some (.int x), Z, I, J) := gq_iret e_57_113
theorem e_58_0 : g_Pg 58 0 = ga_aload 0 1 := (congrFun pg_58 0).trans rfl
theorem q_58_0 {l1 l2 : Value} {x : Nat} {S : List Value} {Z : gZ} {I : gI} {J : gJ} : g_at 58 0 [.ref x, l1, l2] S Z I J = g_at 58 1 [.ref x, l1, l2] (.ref x :: S) Z I J := gq_aload e_58_0 rfl
theorem e_58_1 : g_Pg 58 1 = ga_getR 6 1 4 := (congrFun pg_58 1).trans rfl
theorem q_58_1 {L : List Value} {a : Nat} {S : List Value} {Z : gZ} {I : gI} {J : gJ} (h : (gKd Z a).1 = 6) (h1 : gRs Z a 1 = true) : g_at 58 1 L (.ref a :: S) Z I J = g_at 58 4 L (.ref (gRq Z a 1) :: S) Z I J := gq_getR e_58_1 h h1
theorem e_58_4 : g_Pg 58 4 = ga_iload 1 5 := (congrFun pg_58 4).trans rfl
theorem q_58_4 {l0 l2 : Value} {x : Int32} {S : List Value} {Z : gZ} {I : gI} {J : gJ} : g_at 58 4 [l0, .int x, l2] S Z I J = g_at 58 5 [l0, .int x, l2] (.int x :: S) Z I J := gq_iload e_58_4 rfl
theorem e_58_5 : g_Pg 58 5 = ga_callV 0 3 1 8 := (congrFun pg_58 5).trans rfl
theorem q_58_5 {L : List Value} {a0 : Int32} {a1 : Nat} {Z : gZ} {I : gI} {J : gJ} (h : (gKd Z a1).1 = 0) : g_at 58 5 L [.int a0, .ref a1] Z I J = (g_at 3 0 [.ref a1, .int a0] [] Z I J).bind (fun r => g_at 58 8 L (r.1.toList ++ []) r.2.1 r.2.2.1 r.2.2.2) := gq_callV e_58_5 rfl rfl h rfl rfl rfl rfl rfl
theorem e_58_8 : g_Pg 58 8 = ga_if (fun x => decide (¬ x = 0)) 14 11 := (congrFun pg_58 8).trans rfl
theorem q_58_8 {L : List Value} {x : Int32} {S : List Value} {Z : gZ} {I : gI} {J : gJ} : g_at 58 8 L (.int x :: S) Z I J = if ¬ x = 0 then g_at 58 14 L S Z I J else g_at 58 11 L S Z I J := gq_if e_58_8 rfl
theorem e_58_11 : g_Pg 58 11 = ga_push (.int (-2)) 13 := (congrFun pg_58 11).trans rfl
theorem q_58_11 {L : List Value} {S : List Value} {Z : gZ} {I : gI} {J : gJ} : g_at 58 11 L S Z I J = g_at 58 13 L (.int (-2) :: S) Z I J := gq_push e_58_11
theorem e_58_13 : g_Pg 58 13 = ga_iret := (congrFun pg_58 13).trans rfl
theorem q_58_13 {L : List Value} {x : Int32} {Z : gZ} {I : gI} {J : gJ} : g_at 58 13 L [.int x] Z I J = some (some (.int x), Z, I, J) := gq_iret e_58_13
theorem e_58_14 : g_Pg 58 14 = ga_iload 2 15 := (congrFun pg_58 14).trans rfl
theorem q_58_14 {l0 l1 : Value} {x : Int32} {S : List Value} {Z : gZ} {I : gI} {J : gJ} : g_at 58 14 [l0, l1, .int x] S Z I J = g_at 58 15 [l0, l1, .int x] (.int x :: S) Z I J := gq_iload e_58_14 rfl
theorem e_58_15 : g_Pg 58 15 = ga_switch 0 [44, 54, 64, 80] 98 := (congrFun pg_58 15).trans rfl
theorem q_58_15 {L : List Value} {x : Int32} {S : List Value} {Z : gZ} {I : gI} {J : gJ} : g_at 58 15 L (.int x :: S) Z I J = if x = 0 then g_at 58 44 L S Z I J else if x = 1 then g_at 58 54 L S Z I J else if x = 2 then g_at 58 64 L S Z I J else if x = 3 then g_at 58 80 L S Z I J else g_at 58 98 L S Z I J := (gq_switch e_58_15).trans (gsw_cons (F := fun q => g_at 58 q L S Z I J) (lo := 0) (lo' := 1) (v := 0) rfl rfl (gsw_cons (F := fun q => g_at 58 q L S Z I J) (lo := 1) (lo' := 2) (v := 1) rfl rfl (gsw_cons (F := fun q => g_at 58 q L S Z I J) (lo := 2) (lo' := 3) (v := 2) rfl rfl (gsw_cons (F := fun q => g_at 58 q L S Z I J) (lo := 3) (lo' := 4) (v := 3) rfl rfl rfl))))
theorem e_58_44 : g_Pg 58 44 = ga_aload 0 45 := (congrFun pg_58 44).trans rfl
theorem q_58_44 {l1 l2 : Value} {x : Nat} {S : List Value} {Z : gZ} {I : gI} {J : gJ} : g_at 58 44 [.ref x, l1, l2] S Z I J = g_at 58 45 [.ref x, l1, l2] (.ref x :: S) Z I J := gq_aload e_58_44 rfl
theorem e_58_45 : g_Pg 58 45 = ga_getR 6 1 48 := (congrFun pg_58 45).trans rfl
theorem q_58_45 {L : List Value} {a : Nat} {S : List Value} {Z : gZ} {I : gI} {J : gJ} (h : (gKd Z a).1 = 6) (h1 : gRs Z a 1 = true) : g_at 58 45 L (.ref a :: S) Z I J = g_at 58 48 L (.ref (gRq Z a 1) :: S) Z I J := gq_getR e_58_45 h h1
theorem e_58_48 : g_Pg 58 48 = ga_getR 0 2 51 := (congrFun pg_58 48).trans rfl
theorem q_58_48 {L : List Value} {a : Nat} {S : List Value} {Z : gZ} {I : gI} {J : gJ} (h : (gKd Z a).1 = 0) (h1 : gRs Z a 2 = true) : g_at 58 48 L (.ref a :: S) Z I J = g_at 58 51 L (.ref (gRq Z a 2) :: S) Z I J := gq_getR e_58_48 h h1
theorem e_58_51 : g_Pg 58 51 = ga_iload 1 52 := (congrFun pg_58 51).trans rfl
theorem q_58_51 {l0 l2 : Value} {x : Int32} {S : List Value} {Z : gZ} {I : gI} {J : gJ} : g_at 58 51 [l0, .int x, l2] S Z I J = g_at 58 52 [l0, .int x, l2] (.int x :: S) Z I J := gq_iload e_58_51 rfl
theorem e_58_52 : g_Pg 58 52 = ga_iald 53 := (congrFun pg_58 52).trans rfl
theorem q_58_52 {L : List Value} {a : Nat} {i : Int32} {S : List Value} {Z : gZ} {I : gI} {J : gJ} (h : gTg8 (gKd Z a).1 a = true) (h0 : 0 ≤ i) (h1 : i.toNatClampNeg < (gKd Z a).2) : g_at 58 52 L (.int i :: .ref a :: S) Z I J = g_at 58 53 L (.int (I a i.toNatClampNeg) :: S) Z I J := gq_iald e_58_52 h h0 h1
theorem e_58_53 : g_Pg 58 53 = ga_iret := (congrFun pg_58 53).trans rfl
theorem q_58_53 {L : List Value} {x : Int32} {Z : gZ} {I : gI} {J : gJ} : g_at 58 53 L [.int x] Z I J = some (some (.int x), Z, I, J) := gq_iret e_58_53
theorem e_58_54 : g_Pg 58 54 = ga_aload 0 55 := (congrFun pg_58 54).trans rfl
theorem q_58_54 {l1 l2 : Value} {x : Nat} {S : List Value} {Z : gZ} {I : gI} {J : gJ} : g_at 58 54 [.ref x, l1, l2] S Z I J = g_at 58 55 [.ref x, l1, l2] (.ref x :: S) Z I J := gq_aload e_58_54 rfl
theorem e_58_55 : g_Pg 58 55 = ga_getR 6 1 58 := (congrFun pg_58 55).trans rfl
theorem q_58_55 {L : List Value} {a : Nat} {S : List Value} {Z : gZ} {I : gI} {J : gJ} (h : (gKd Z a).1 = 6) (h1 : gRs Z a 1 = true) : g_at 58 55 L (.ref a :: S) Z I J = g_at 58 58 L (.ref (gRq Z a 1) :: S) Z I J := gq_getR e_58_55 h h1
theorem e_58_58 : g_Pg 58 58 = ga_getR 0 3 61 := (congrFun pg_58 58).trans rfl
theorem q_58_58 {L : List Value} {a : Nat} {S : List Value} {Z : gZ} {I : gI} {J : gJ} (h : (gKd Z a).1 = 0) (h1 : gRs Z a 3 = true) : g_at 58 58 L (.ref a :: S) Z I J = g_at 58 61 L (.ref (gRq Z a 3) :: S) Z I J := gq_getR e_58_58 h h1
theorem e_58_61 : g_Pg 58 61 = ga_iload 1 62 := (congrFun pg_58 61).trans rfl
theorem q_58_61 {l0 l2 : Value} {x : Int32} {S : List Value} {Z : gZ} {I : gI} {J : gJ} : g_at 58 61 [l0, .int x, l2] S Z I J = g_at 58 62 [l0, .int x, l2] (.int x :: S) Z I J := gq_iload e_58_61 rfl
theorem e_58_62 : g_Pg 58 62 = ga_iald 63 := (congrFun pg_58 62).trans rfl
theorem q_58_62 {L : List Value} {a : Nat} {i : Int32} {S : List Value} {Z : gZ} {I : gI} {J : gJ} (h : gTg8 (gKd Z a).1 a = true) (h0 : 0 ≤ i) (h1 : i.toNatClampNeg < (gKd Z a).2) : g_at 58 62 L (.int i :: .ref a :: S) Z I J = g_at 58 63 L (.int (I a i.toNatClampNeg) :: S) Z I J := gq_iald e_58_62 h h0 h1
theorem e_58_63 : g_Pg 58 63 = ga_iret := (congrFun pg_58 63).trans rfl
theorem q_58_63 {L : List Value} {x : Int32} {Z : gZ} {I : gI} {J : gJ} : g_at 58 63 L [.int x] Z I J = some (some (.int x), Z, I, J) := gq_iret e_58_63
theorem e_58_64 : g_Pg 58 64 = ga_aload 0 65 := (congrFun pg_58 64).trans rfl
theorem q_58_64 {l1 l2 : Value} {x : Nat} {S : List Value} {Z : gZ} {I : gI} {J : gJ} : g_at 58 64 [.ref x, l1, l2] S Z I J = g_at 58 65 [.ref x, l1, l2] (.ref x :: S) Z I J := gq_aload e_58_64 rfl
theorem e_58_65 : g_Pg 58 65 = ga_getR 6 1 68 := (congrFun pg_58 65).trans rfl
theorem q_58_65 {L : List Value} {a : Nat} {S : List Value} {Z : gZ} {I : gI} {J : gJ} (h : (gKd Z a).1 = 6) (h1 : gRs Z a 1 = true) : g_at 58 65 L (.ref a :: S) Z I J = g_at 58 68 L (.ref (gRq Z a 1) :: S) Z I J := gq_getR e_58_65 h h1
theorem e_58_68 : g_Pg 58 68 = ga_iload 1 69 := (congrFun pg_58 68).trans rfl
theorem q_58_68 {l0 l2 : Value} {x : Int32} {S : List Value} {Z : gZ} {I : gI} {J : gJ} : g_at 58 68 [l0, .int x, l2] S Z I J = g_at 58 69 [l0, .int x, l2] (.int x :: S) Z I J := gq_iload e_58_68 rfl
theorem e_58_69 : g_Pg 58 69 = ga_aload 0 70 := (congrFun pg_58 69).trans rfl
theorem q_58_69 {l1 l2 : Value} {x : Nat} {S : List Value} {Z : gZ} {I : gI} {J : gJ} : g_at 58 69 [.ref x, l1, l2] S Z I J = g_at 58 70 [.ref x, l1, l2] (.ref x :: S) Z I J := gq_aload e_58_69 rfl
theorem e_58_70 : g_Pg 58 70 = ga_getR 6 3 73 := (congrFun pg_58 70).trans rfl
theorem q_58_70 {L : List Value} {a : Nat} {S : List Value} {Z : gZ} {I : gI} {J : gJ} (h : (gKd Z a).1 = 6) (h1 : gRs Z a 3 = true) : g_at 58 70 L (.ref a :: S) Z I J = g_at 58 73 L (.ref (gRq Z a 3) :: S) Z I J := gq_getR e_58_70 h h1
theorem e_58_73 : g_Pg 58 73 = ga_getI 2 4 76 := (congrFun pg_58 73).trans rfl
theorem q_58_73 {L : List Value} {a : Nat} {S : List Value} {Z : gZ} {I : gI} {J : gJ} (h : (gKd Z a).1 = 2) : g_at 58 73 L (.ref a :: S) Z I J = g_at 58 76 L (.int (I a 4) :: S) Z I J := gq_getI e_58_73 h
theorem e_58_76 : g_Pg 58 76 = ga_callV 0 5 2 79 := (congrFun pg_58 76).trans rfl
theorem q_58_76 {L : List Value} {a0 : Int32} {a1 : Int32} {a2 : Nat} {Z : gZ} {I : gI} {J : gJ} (h : (gKd Z a2).1 = 0) : g_at 58 76 L [.int a0, .int a1, .ref a2] Z I J = (g_at 5 0 [.ref a2, .int a1, .int a0, .null] [] Z I J).bind (fun r => g_at 58 79 L (r.1.toList ++ []) r.2.1 r.2.2.1 r.2.2.2) := gq_callV e_58_76 rfl rfl h rfl rfl rfl rfl rfl
theorem e_58_79 : g_Pg 58 79 = ga_iret := (congrFun pg_58 79).trans rfl
theorem q_58_79 {L : List Value} {x : Int32} {Z : gZ} {I : gI} {J : gJ} : g_at 58 79 L [.int x] Z I J = some (some (.int x), Z, I, J) := gq_iret e_58_79
theorem e_58_80 : g_Pg 58 80 = ga_aload 0 81 := (congrFun pg_58 80).trans rfl
theorem q_58_80 {l1 l2 : Value} {x : Nat} {S : List Value} {Z : gZ} {I : gI} {J : gJ} : g_at 58 80 [.ref x, l1, l2] S Z I J = g_at 58 81 [.ref x, l1, l2] (.ref x :: S) Z I J := gq_aload e_58_80 rfl
theorem e_58_81 : g_Pg 58 81 = ga_getR 6 3 84 := (congrFun pg_58 81).trans rfl
theorem q_58_81 {L : List Value} {a : Nat} {S : List Value} {Z : gZ} {I : gI} {J : gJ} (h : (gKd Z a).1 = 6) (h1 : gRs Z a 3 = true) : g_at 58 81 L (.ref a :: S) Z I J = g_at 58 84 L (.ref (gRq Z a 3) :: S) Z I J := gq_getR e_58_81 h h1
theorem e_58_84 : g_Pg 58 84 = ga_getR 2 2 87 := (congrFun pg_58 84).trans rfl
theorem q_58_84 {L : List Value} {a : Nat} {S : List Value} {Z : gZ} {I : gI} {J : gJ} (h : (gKd Z a).1 = 2) (h1 : gRs Z a 2 = true) : g_at 58 84 L (.ref a :: S) Z I J = g_at 58 87 L (.ref (gRq Z a 2) :: S) Z I J := gq_getR e_58_84 h h1
theorem e_58_87 : g_Pg 58 87 = ga_iload 1 88 := (congrFun pg_58 87).trans rfl
theorem q_58_87 {l0 l2 : Value} {x : Int32} {S : List Value} {Z : gZ} {I : gI} {J : gJ} : g_at 58 87 [l0, .int x, l2] S Z I J = g_at 58 88 [l0, .int x, l2] (.int x :: S) Z I J := gq_iload e_58_87 rfl
theorem e_58_88 : g_Pg 58 88 = ga_bald 89 := (congrFun pg_58 88).trans rfl
theorem q_58_88 {L : List Value} {a : Nat} {i : Int32} {S : List Value} {Z : gZ} {I : gI} {J : gJ} (h : gTg9 (gKd Z a).1 a = true) (h0 : 0 ≤ i) (h1 : i.toNatClampNeg < (gKd Z a).2) : g_at 58 88 L (.int i :: .ref a :: S) Z I J = g_at 58 89 L (.int (I a i.toNatClampNeg) :: S) Z I J := gq_bald e_58_88 h h0 h1
theorem e_58_89 : g_Pg 58 89 = ga_if (fun x => decide (x = 0)) 96 92 := (congrFun pg_58 89).trans rfl
theorem q_58_89 {L : List Value} {x : Int32} {S : List Value} {Z : gZ} {I : gI} {J : gJ} : g_at 58 89 L (.int x :: S) Z I J = if x = 0 then g_at 58 96 L S Z I J else g_at 58 92 L S Z I J := gq_if e_58_89 rfl
theorem e_58_92 : g_Pg 58 92 = ga_push (.int 1) 93 := (congrFun pg_58 92).trans rfl
theorem q_58_92 {L : List Value} {S : List Value} {Z : gZ} {I : gI} {J : gJ} : g_at 58 92 L S Z I J = g_at 58 93 L (.int 1 :: S) Z I J := gq_push e_58_92
theorem e_58_93 : g_Pg 58 93 = ga_goto 97 := (congrFun pg_58 93).trans rfl
theorem q_58_93 {L : List Value} {S : List Value} {Z : gZ} {I : gI} {J : gJ} : g_at 58 93 L S Z I J = g_at 58 97 L S Z I J := gq_goto e_58_93
theorem e_58_96 : g_Pg 58 96 = ga_push (.int 0) 97 := (congrFun pg_58 96).trans rfl
theorem q_58_96 {L : List Value} {S : List Value} {Z : gZ} {I : gI} {J : gJ} : g_at 58 96 L S Z I J = g_at 58 97 L (.int 0 :: S) Z I J := gq_push e_58_96
theorem e_58_97 : g_Pg 58 97 = ga_iret := (congrFun pg_58 97).trans rfl
theorem q_58_97 {L : List Value} {x : Int32} {Z : gZ} {I : gI} {J : gJ} : g_at 58 97 L [.int x] Z I J = some (some (.int x), Z, I, J) := gq_iret e_58_97
theorem e_58_98 : g_Pg 58 98 = ga_push (.int (-3)) 100 := (congrFun pg_58 98).trans rfl
theorem q_58_98 {L : List Value} {S : List Value} {Z : gZ} {I : gI} {J : gJ} : g_at 58 98 L S Z I J = g_at 58 100 L (.int (-3) :: S) Z I J := gq_push e_58_98
theorem e_58_100 : g_Pg 58 100 = ga_iret := (congrFun pg_58 100).trans rfl
theorem q_58_100 {L : List Value} {x : Int32} {Z : gZ} {I : gI} {J : gJ} : g_at 58 100 L [.int x] Z I J = some (some (.int x), Z, I, J) := gq_iret e_58_100
theorem e_59_0 : g_Pg 59 0 = ga_aload 0 1 := (congrFun pg_59 0).trans rfl
theorem q_59_0 {l1 l2 : Value} {x : Nat} {S : List Value} {Z : gZ} {I : gI} {J : gJ} : g_at 59 0 [.ref x, l1, l2] S Z I J = g_at 59 1 [.ref x, l1, l2] (.ref x :: S) Z I J := gq_aload e_59_0 rfl
theorem e_59_1 : g_Pg 59 1 = ga_getR 6 1 4 := (congrFun pg_59 1).trans rfl
theorem q_59_1 {L : List Value} {a : Nat} {S : List Value} {Z : gZ} {I : gI} {J : gJ} (h : (gKd Z a).1 = 6) (h1 : gRs Z a 1 = true) : g_at 59 1 L (.ref a :: S) Z I J = g_at 59 4 L (.ref (gRq Z a 1) :: S) Z I J := gq_getR e_59_1 h h1
theorem e_59_4 : g_Pg 59 4 = ga_iload 1 5 := (congrFun pg_59 4).trans rfl
theorem q_59_4 {l0 l2 : Value} {x : Int32} {S : List Value} {Z : gZ} {I : gI} {J : gJ} : g_at 59 4 [l0, .int x, l2] S Z I J = g_at 59 5 [l0, .int x, l2] (.int x :: S) Z I J := gq_iload e_59_4 rfl
theorem e_59_5 : g_Pg 59 5 = ga_callV 0 3 1 8 := (congrFun pg_59 5).trans rfl
theorem q_59_5 {L : List Value} {a0 : Int32} {a1 : Nat} {Z : gZ} {I : gI} {J : gJ} (h : (gKd Z a1).1 = 0) : g_at 59 5 L [.int a0, .ref a1] Z I J = (g_at 3 0 [.ref a1, .int a0] [] Z I J).bind (fun r => g_at 59 8 L (r.1.toList ++ []) r.2.1 r.2.2.1 r.2.2.2) := gq_callV e_59_5 rfl rfl h rfl rfl rfl rfl rfl
theorem e_59_8 : g_Pg 59 8 = ga_if (fun x => decide (¬ x = 0)) 14 11 := (congrFun pg_59 8).trans rfl
theorem q_59_8 {L : List Value} {x : Int32} {S : List Value} {Z : gZ} {I : gI} {J : gJ} : g_at 59 8 L (.int x :: S) Z I J = if ¬ x = 0 then g_at 59 14 L S Z I J else g_at 59 11 L S Z I J := gq_if e_59_8 rfl
theorem e_59_11 : g_Pg 59 11 = ga_push (.int (-2)) 13 := (congrFun pg_59 11).trans rfl
theorem q_59_11 {L : List Value} {S : List Value} {Z : gZ} {I : gI} {J : gJ} : g_at 59 11 L S Z I J = g_at 59 13 L (.int (-2) :: S) Z I J := gq_push e_59_11
theorem e_59_13 : g_Pg 59 13 = ga_iret := (congrFun pg_59 13).trans rfl
theorem q_59_13 {L : List Value} {x : Int32} {Z : gZ} {I : gI} {J : gJ} : g_at 59 13 L [.int x] Z I J = some (some (.int x), Z, I, J) := gq_iret e_59_13
theorem e_59_14 : g_Pg 59 14 = ga_iload 2 15 := (congrFun pg_59 14).trans rfl
theorem q_59_14 {l0 l1 : Value} {x : Int32} {S : List Value} {Z : gZ} {I : gI} {J : gJ} : g_at 59 14 [l0, l1, .int x] S Z I J = g_at 59 15 [l0, l1, .int x] (.int x :: S) Z I J := gq_iload e_59_14 rfl
theorem e_59_15 : g_Pg 59 15 = ga_if (fun x => decide (x < 0)) 26 18 := (congrFun pg_59 15).trans rfl
theorem q_59_15 {L : List Value} {x : Int32} {S : List Value} {Z : gZ} {I : gI} {J : gJ} : g_at 59 15 L (.int x :: S) Z I J = if x < 0 then g_at 59 26 L S Z I J else g_at 59 18 L S Z I J := gq_if e_59_15 rfl
theorem e_59_18 : g_Pg 59 18 = ga_iload 2 19 := (congrFun pg_59 18).trans rfl
theorem q_59_18 {l0 l1 : Value} {x : Int32} {S : List Value} {Z : gZ} {I : gI} {J : gJ} : g_at 59 18 [l0, l1, .int x] S Z I J = g_at 59 19 [l0, l1, .int x] (.int x :: S) Z I J := gq_iload e_59_18 rfl
theorem e_59_19 : g_Pg 59 19 = ga_push (.ref 1000) 22 := (congrFun pg_59 19).trans rfl
theorem q_59_19 {L : List Value} {S : List Value} {Z : gZ} {I : gI} {J : gJ} : g_at 59 19 L S Z I J = g_at 59 22 L (.ref 1000 :: S) Z I J := gq_push e_59_19
theorem e_59_22 : g_Pg 59 22 = ga_alen 23 := (congrFun pg_59 22).trans rfl
theorem q_59_22 {L : List Value} {a : Nat} {S : List Value} {Z : gZ} {I : gI} {J : gJ} (h : gTgA (gKd Z a).1 a = true) : g_at 59 22 L (.ref a :: S) Z I J = g_at 59 23 L (.int (Int32.ofNat (gKd Z a).2) :: S) Z I J := gq_alen e_59_22 h
theorem e_59_23 : g_Pg 59 23 = ga_cmp (fun x y => decide (x < y)) 29 26 := (congrFun pg_59 23).trans rfl
theorem q_59_23 {L : List Value} {x y : Int32} {S : List Value} {Z : gZ} {I : gI} {J : gJ} : g_at 59 23 L (.int y :: .int x :: S) Z I J = if x < y then g_at 59 29 L S Z I J else g_at 59 26 L S Z I J := gq_cmp e_59_23 rfl
theorem e_59_26 : g_Pg 59 26 = ga_push (.int (-3)) 28 := (congrFun pg_59 26).trans rfl
theorem q_59_26 {L : List Value} {S : List Value} {Z : gZ} {I : gI} {J : gJ} : g_at 59 26 L S Z I J = g_at 59 28 L (.int (-3) :: S) Z I J := gq_push e_59_26
theorem e_59_28 : g_Pg 59 28 = ga_iret := (congrFun pg_59 28).trans rfl
theorem q_59_28 {L : List Value} {x : Int32} {Z : gZ} {I : gI} {J : gJ} : g_at 59 28 L [.int x] Z I J = some (some (.int x), Z, I, J) := gq_iret e_59_28
theorem e_59_29 : g_Pg 59 29 = ga_aload 0 30 := (congrFun pg_59 29).trans rfl
theorem q_59_29 {l1 l2 : Value} {x : Nat} {S : List Value} {Z : gZ} {I : gI} {J : gJ} : g_at 59 29 [.ref x, l1, l2] S Z I J = g_at 59 30 [.ref x, l1, l2] (.ref x :: S) Z I J := gq_aload e_59_29 rfl
theorem e_59_30 : g_Pg 59 30 = ga_getR 6 1 33 := (congrFun pg_59 30).trans rfl
theorem q_59_30 {L : List Value} {a : Nat} {S : List Value} {Z : gZ} {I : gI} {J : gJ} (h : (gKd Z a).1 = 6) (h1 : gRs Z a 1 = true) : g_at 59 30 L (.ref a :: S) Z I J = g_at 59 33 L (.ref (gRq Z a 1) :: S) Z I J := gq_getR e_59_30 h h1
theorem e_59_33 : g_Pg 59 33 = ga_getR 0 2 36 := (congrFun pg_59 33).trans rfl
theorem q_59_33 {L : List Value} {a : Nat} {S : List Value} {Z : gZ} {I : gI} {J : gJ} (h : (gKd Z a).1 = 0) (h1 : gRs Z a 2 = true) : g_at 59 33 L (.ref a :: S) Z I J = g_at 59 36 L (.ref (gRq Z a 2) :: S) Z I J := gq_getR e_59_33 h h1
theorem e_59_36 : g_Pg 59 36 = ga_iload 1 37 := (congrFun pg_59 36).trans rfl
theorem q_59_36 {l0 l2 : Value} {x : Int32} {S : List Value} {Z : gZ} {I : gI} {J : gJ} : g_at 59 36 [l0, .int x, l2] S Z I J = g_at 59 37 [l0, .int x, l2] (.int x :: S) Z I J := gq_iload e_59_36 rfl
theorem e_59_37 : g_Pg 59 37 = ga_iald 38 := (congrFun pg_59 37).trans rfl
theorem q_59_37 {L : List Value} {a : Nat} {i : Int32} {S : List Value} {Z : gZ} {I : gI} {J : gJ} (h : gTg8 (gKd Z a).1 a = true) (h0 : 0 ≤ i) (h1 : i.toNatClampNeg < (gKd Z a).2) : g_at 59 37 L (.int i :: .ref a :: S) Z I J = g_at 59 38 L (.int (I a i.toNatClampNeg) :: S) Z I J := gq_iald e_59_37 h h0 h1
theorem e_59_38 : g_Pg 59 38 = ga_iload 2 39 := (congrFun pg_59 38).trans rfl
theorem q_59_38 {l0 l1 : Value} {x : Int32} {S : List Value} {Z : gZ} {I : gI} {J : gJ} : g_at 59 38 [l0, l1, .int x] S Z I J = g_at 59 39 [l0, l1, .int x] (.int x :: S) Z I J := gq_iload e_59_38 rfl
theorem e_59_39 : g_Pg 59 39 = ga_call 60 2 42 := (congrFun pg_59 39).trans rfl
theorem q_59_39 {L : List Value} {a0 : Int32} {a1 : Int32} {Z : gZ} {I : gI} {J : gJ} : g_at 59 39 L [.int a0, .int a1] Z I J = (g_at 60 0 [.int a1, .int a0, .null, .null] [] Z I J).bind (fun r => g_at 59 42 L (r.1.toList ++ []) r.2.1 r.2.2.1 r.2.2.2) := gq_call e_59_39 rfl rfl rfl rfl rfl
theorem e_59_42 : g_Pg 59 42 = ga_if (fun x => decide (x = 0)) 63 45 := (congrFun pg_59 42).trans rfl
theorem q_59_42 {L : List Value} {x : Int32} {S : List Value} {Z : gZ} {I : gI} {J : gJ} : g_at 59 42 L (.int x :: S) Z I J = if x = 0 then g_at 59 63 L S Z I J else g_at 59 45 L S Z I J := gq_if e_59_42 rfl
theorem e_59_45 : g_Pg 59 45 = ga_aload 0 46 := (congrFun pg_59 45).trans rfl
theorem q_59_45 {l1 l2 : Value} {x : Nat} {S : List Value} {Z : gZ} {I : gI} {J : gJ} : g_at 59 45 [.ref x, l1, l2] S Z I J = g_at 59 46 [.ref x, l1, l2] (.ref x :: S) Z I J := gq_aload e_59_45 rfl
theorem e_59_46 : g_Pg 59 46 = ga_getR 6 1 49 := (congrFun pg_59 46).trans rfl
theorem q_59_46 {L : List Value} {a : Nat} {S : List Value} {Z : gZ} {I : gI} {J : gJ} (h : (gKd Z a).1 = 6) (h1 : gRs Z a 1 = true) : g_at 59 46 L (.ref a :: S) Z I J = g_at 59 49 L (.ref (gRq Z a 1) :: S) Z I J := gq_getR e_59_46 h h1
theorem e_59_49 : g_Pg 59 49 = ga_iload 1 50 := (congrFun pg_59 49).trans rfl
theorem q_59_49 {l0 l2 : Value} {x : Int32} {S : List Value} {Z : gZ} {I : gI} {J : gJ} : g_at 59 49 [l0, .int x, l2] S Z I J = g_at 59 50 [l0, .int x, l2] (.int x :: S) Z I J := gq_iload e_59_49 rfl
theorem e_59_50 : g_Pg 59 50 = ga_aload 0 51 := (congrFun pg_59 50).trans rfl
theorem q_59_50 {l1 l2 : Value} {x : Nat} {S : List Value} {Z : gZ} {I : gI} {J : gJ} : g_at 59 50 [.ref x, l1, l2] S Z I J = g_at 59 51 [.ref x, l1, l2] (.ref x :: S) Z I J := gq_aload e_59_50 rfl
theorem e_59_51 : g_Pg 59 51 = ga_getR 6 3 54 := (congrFun pg_59 51).trans rfl
theorem q_59_51 {L : List Value} {a : Nat} {S : List Value} {Z : gZ} {I : gI} {J : gJ} (h : (gKd Z a).1 = 6) (h1 : gRs Z a 3 = true) : g_at 59 51 L (.ref a :: S) Z I J = g_at 59 54 L (.ref (gRq Z a 3) :: S) Z I J := gq_getR e_59_51 h h1
theorem e_59_54 : g_Pg 59 54 = ga_getI 2 4 57 := (congrFun pg_59 54).trans rfl
theorem q_59_54 {L : List Value} {a : Nat} {S : List Value} {Z : gZ} {I : gI} {J : gJ} (h : (gKd Z a).1 = 2) : g_at 59 54 L (.ref a :: S) Z I J = g_at 59 57 L (.int (I a 4) :: S) Z I J := gq_getI e_59_54 h
theorem e_59_57 : g_Pg 59 57 = ga_callV 0 5 2 60 := (congrFun pg_59 57).trans rfl
theorem q_59_57 {L : List Value} {a0 : Int32} {a1 : Int32} {a2 : Nat} {Z : gZ} {I : gI} {J : gJ} (h : (gKd Z a2).1 = 0) : g_at 59 57 L [.int a0, .int a1, .ref a2] Z I J = (g_at 5 0 [.ref a2, .int a1, .int a0, .null] [] Z I J).bind (fun r => g_at 59 60 L (r.1.toList ++ []) r.2.1 r.2.2.1 r.2.2.2) := gq_callV e_59_57 rfl rfl h rfl rfl rfl rfl rfl
theorem e_59_60 : g_Pg 59 60 = ga_goto 65 := (congrFun pg_59 60).trans rfl
theorem q_59_60 {L : List Value} {S : List Value} {Z : gZ} {I : gI} {J : gJ} : g_at 59 60 L S Z I J = g_at 59 65 L S Z I J := gq_goto e_59_60
theorem e_59_63 : g_Pg 59 63 = ga_push (.int (-4)) 65 := (congrFun pg_59 63).trans rfl
theorem q_59_63 {L : List Value} {S : List Value} {Z : gZ} {I : gI} {J : gJ} : g_at 59 63 L S Z I J = g_at 59 65 L (.int (-4) :: S) Z I J := gq_push e_59_63
theorem e_59_65 : g_Pg 59 65 = ga_iret := (congrFun pg_59 65).trans rfl
theorem q_59_65 {L : List Value} {x : Int32} {Z : gZ} {I : gI} {J : gJ} : g_at 59 65 L [.int x] Z I J = some (some (.int x), Z, I, J) := gq_iret e_59_65
theorem e_60_0 : g_Pg 60 0 = ga_iload 0 1 := (congrFun pg_60 0).trans rfl
theorem q_60_0 {l1 l2 l3 : Value} {x : Int32} {S : List Value} {Z : gZ} {I : gI} {J : gJ} : g_at 60 0 [.int x, l1, l2, l3] S Z I J = g_at 60 1 [.int x, l1, l2, l3] (.int x :: S) Z I J := gq_iload e_60_0 rfl
theorem e_60_1 : g_Pg 60 1 = ga_push (.int 1) 2 := (congrFun pg_60 1).trans rfl
theorem q_60_1 {L : List Value} {S : List Value} {Z : gZ} {I : gI} {J : gJ} : g_at 60 1 L S Z I J = g_at 60 2 L (.int 1 :: S) Z I J := gq_push e_60_1
theorem e_60_2 : g_Pg 60 2 = ga_bin (fun x y => x + y) 3 := (congrFun pg_60 2).trans rfl
theorem q_60_2 {L : List Value} {x y : Int32} {S : List Value} {Z : gZ} {I : gI} {J : gJ} : g_at 60 2 L (.int y :: .int x :: S) Z I J = g_at 60 3 L (.int (x + y) :: S) Z I J := gq_bin e_60_2
theorem e_60_3 : g_Pg 60 3 = ga_istore 2 4 := (congrFun pg_60 3).trans rfl
theorem q_60_3 {l0 l1 l2 l3 : Value} {x : Int32} {S : List Value} {Z : gZ} {I : gI} {J : gJ} (h : gN1 l1 = true) : g_at 60 3 [l0, l1, l2, l3] (.int x :: S) Z I J = g_at 60 4 [l0, l1, .int x, l3] S Z I J := gq_istore e_60_3 h rfl rfl
theorem e_60_4 : g_Pg 60 4 = ga_push (.int 0) 5 := (congrFun pg_60 4).trans rfl
theorem q_60_4 {L : List Value} {S : List Value} {Z : gZ} {I : gI} {J : gJ} : g_at 60 4 L S Z I J = g_at 60 5 L (.int 0 :: S) Z I J := gq_push e_60_4
theorem e_60_5 : g_Pg 60 5 = ga_istore 3 6 := (congrFun pg_60 5).trans rfl
theorem q_60_5 {l0 l1 l2 l3 : Value} {x : Int32} {S : List Value} {Z : gZ} {I : gI} {J : gJ} (h : gN1 l2 = true) : g_at 60 5 [l0, l1, l2, l3] (.int x :: S) Z I J = g_at 60 6 [l0, l1, l2, .int x] S Z I J := gq_istore e_60_5 h rfl rfl
theorem e_60_6 : g_Pg 60 6 = ga_iload 3 7 := (congrFun pg_60 6).trans rfl
theorem q_60_6 {l0 l1 l2 : Value} {x : Int32} {S : List Value} {Z : gZ} {I : gI} {J : gJ} : g_at 60 6 [l0, l1, l2, .int x] S Z I J = g_at 60 7 [l0, l1, l2, .int x] (.int x :: S) Z I J := gq_iload e_60_6 rfl
theorem e_60_7 : g_Pg 60 7 = ga_push (.ref 1000) 10 := (congrFun pg_60 7).trans rfl
theorem q_60_7 {L : List Value} {S : List Value} {Z : gZ} {I : gI} {J : gJ} : g_at 60 7 L S Z I J = g_at 60 10 L (.ref 1000 :: S) Z I J := gq_push e_60_7
theorem e_60_10 : g_Pg 60 10 = ga_alen 11 := (congrFun pg_60 10).trans rfl
theorem q_60_10 {L : List Value} {a : Nat} {S : List Value} {Z : gZ} {I : gI} {J : gJ} (h : gTgA (gKd Z a).1 a = true) : g_at 60 10 L (.ref a :: S) Z I J = g_at 60 11 L (.int (Int32.ofNat (gKd Z a).2) :: S) Z I J := gq_alen e_60_10 h
theorem e_60_11 : g_Pg 60 11 = ga_cmp (fun x y => decide (y ≤ x)) 47 14 := (congrFun pg_60 11).trans rfl
theorem q_60_11 {L : List Value} {x y : Int32} {S : List Value} {Z : gZ} {I : gI} {J : gJ} : g_at 60 11 L (.int y :: .int x :: S) Z I J = if y ≤ x then g_at 60 47 L S Z I J else g_at 60 14 L S Z I J := gq_cmp e_60_11 rfl
theorem e_60_14 : g_Pg 60 14 = ga_iload 2 15 := (congrFun pg_60 14).trans rfl
theorem q_60_14 {l0 l1 l3 : Value} {x : Int32} {S : List Value} {Z : gZ} {I : gI} {J : gJ} : g_at 60 14 [l0, l1, .int x, l3] S Z I J = g_at 60 15 [l0, l1, .int x, l3] (.int x :: S) Z I J := gq_iload e_60_14 rfl
theorem e_60_15 : g_Pg 60 15 = ga_if (fun x => decide (x < 0)) 26 18 := (congrFun pg_60 15).trans rfl
theorem q_60_15 {L : List Value} {x : Int32} {S : List Value} {Z : gZ} {I : gI} {J : gJ} : g_at 60 15 L (.int x :: S) Z I J = if x < 0 then g_at 60 26 L S Z I J else g_at 60 18 L S Z I J := gq_if e_60_15 rfl
theorem e_60_18 : g_Pg 60 18 = ga_iload 2 19 := (congrFun pg_60 18).trans rfl
theorem q_60_18 {l0 l1 l3 : Value} {x : Int32} {S : List Value} {Z : gZ} {I : gI} {J : gJ} : g_at 60 18 [l0, l1, .int x, l3] S Z I J = g_at 60 19 [l0, l1, .int x, l3] (.int x :: S) Z I J := gq_iload e_60_18 rfl
theorem e_60_19 : g_Pg 60 19 = ga_push (.ref 1000) 22 := (congrFun pg_60 19).trans rfl
theorem q_60_19 {L : List Value} {S : List Value} {Z : gZ} {I : gI} {J : gJ} : g_at 60 19 L S Z I J = g_at 60 22 L (.ref 1000 :: S) Z I J := gq_push e_60_19
theorem e_60_22 : g_Pg 60 22 = ga_alen 23 := (congrFun pg_60 22).trans rfl
theorem q_60_22 {L : List Value} {a : Nat} {S : List Value} {Z : gZ} {I : gI} {J : gJ} (h : gTgA (gKd Z a).1 a = true) : g_at 60 22 L (.ref a :: S) Z I J = g_at 60 23 L (.int (Int32.ofNat (gKd Z a).2) :: S) Z I J := gq_alen e_60_22 h
theorem e_60_23 : g_Pg 60 23 = ga_cmp (fun x y => decide (x < y)) 28 26 := (congrFun pg_60 23).trans rfl
theorem q_60_23 {L : List Value} {x y : Int32} {S : List Value} {Z : gZ} {I : gI} {J : gJ} : g_at 60 23 L (.int y :: .int x :: S) Z I J = if x < y then g_at 60 28 L S Z I J else g_at 60 26 L S Z I J := gq_cmp e_60_23 rfl
theorem e_60_26 : g_Pg 60 26 = ga_push (.int 0) 27 := (congrFun pg_60 26).trans rfl
theorem q_60_26 {L : List Value} {S : List Value} {Z : gZ} {I : gI} {J : gJ} : g_at 60 26 L S Z I J = g_at 60 27 L (.int 0 :: S) Z I J := gq_push e_60_26
theorem e_60_27 : g_Pg 60 27 = ga_zret := (congrFun pg_60 27).trans rfl
theorem q_60_27 {L : List Value} {x : Int32} {Z : gZ} {I : gI} {J : gJ} (h : gB01 x = true) : g_at 60 27 L [.int x] Z I J = some (some (.int x), Z, I, J) := gq_zret e_60_27 h
theorem e_60_28 : g_Pg 60 28 = ga_iload 2 29 := (congrFun pg_60 28).trans rfl
theorem q_60_28 {l0 l1 l3 : Value} {x : Int32} {S : List Value} {Z : gZ} {I : gI} {J : gJ} : g_at 60 28 [l0, l1, .int x, l3] S Z I J = g_at 60 29 [l0, l1, .int x, l3] (.int x :: S) Z I J := gq_iload e_60_28 rfl
theorem e_60_29 : g_Pg 60 29 = ga_iload 1 30 := (congrFun pg_60 29).trans rfl
theorem q_60_29 {l0 l2 l3 : Value} {x : Int32} {S : List Value} {Z : gZ} {I : gI} {J : gJ} : g_at 60 29 [l0, .int x, l2, l3] S Z I J = g_at 60 30 [l0, .int x, l2, l3] (.int x :: S) Z I J := gq_iload e_60_29 rfl
theorem e_60_30 : g_Pg 60 30 = ga_cmp (fun x y => decide (¬ x = y)) 35 33 := (congrFun pg_60 30).trans rfl
theorem q_60_30 {L : List Value} {x y : Int32} {S : List Value} {Z : gZ} {I : gI} {J : gJ} : g_at 60 30 L (.int y :: .int x :: S) Z I J = if ¬ x = y then g_at 60 35 L S Z I J else g_at 60 33 L S Z I J := gq_cmp e_60_30 rfl
theorem e_60_33 : g_Pg 60 33 = ga_push (.int 1) 34 := (congrFun pg_60 33).trans rfl
theorem q_60_33 {L : List Value} {S : List Value} {Z : gZ} {I : gI} {J : gJ} : g_at 60 33 L S Z I J = g_at 60 34 L (.int 1 :: S) Z I J := gq_push e_60_33
theorem e_60_34 : g_Pg 60 34 = ga_zret := (congrFun pg_60 34).trans rfl
theorem q_60_34 {L : List Value} {x : Int32} {Z : gZ} {I : gI} {J : gJ} (h : gB01 x = true) : g_at 60 34 L [.int x] Z I J = some (some (.int x), Z, I, J) := gq_zret e_60_34 h
theorem e_60_35 : g_Pg 60 35 = ga_push (.ref 1000) 38 := (congrFun pg_60 35).trans rfl
theorem q_60_35 {L : List Value} {S : List Value} {Z : gZ} {I : gI} {J : gJ} : g_at 60 35 L S Z I J = g_at 60 38 L (.ref 1000 :: S) Z I J := gq_push e_60_35
theorem e_60_38 : g_Pg 60 38 = ga_iload 2 39 := (congrFun pg_60 38).trans rfl
theorem q_60_38 {l0 l1 l3 : Value} {x : Int32} {S : List Value} {Z : gZ} {I : gI} {J : gJ} : g_at 60 38 [l0, l1, .int x, l3] S Z I J = g_at 60 39 [l0, l1, .int x, l3] (.int x :: S) Z I J := gq_iload e_60_38 rfl
theorem e_60_39 : g_Pg 60 39 = ga_iald 40 := (congrFun pg_60 39).trans rfl
theorem q_60_39 {L : List Value} {a : Nat} {i : Int32} {S : List Value} {Z : gZ} {I : gI} {J : gJ} (h : gTg8 (gKd Z a).1 a = true) (h0 : 0 ≤ i) (h1 : i.toNatClampNeg < (gKd Z a).2) : g_at 60 39 L (.int i :: .ref a :: S) Z I J = g_at 60 40 L (.int (I a i.toNatClampNeg) :: S) Z I J := gq_iald e_60_39 h h0 h1
theorem e_60_40 : g_Pg 60 40 = ga_istore 2 41 := (congrFun pg_60 40).trans rfl
theorem q_60_40 {l0 l1 l2 l3 : Value} {x : Int32} {S : List Value} {Z : gZ} {I : gI} {J : gJ} (h : gN1 l1 = true) : g_at 60 40 [l0, l1, l2, l3] (.int x :: S) Z I J = g_at 60 41 [l0, l1, .int x, l3] S Z I J := gq_istore e_60_40 h rfl rfl
theorem e_60_41 : g_Pg 60 41 = ga_iinc 3 1 44 := (congrFun pg_60 41).trans rfl
theorem q_60_41 {l0 l1 l2 : Value} {x : Int32} {S : List Value} {Z : gZ} {I : gI} {J : gJ} (h : gN1 l2 = true) : g_at 60 41 [l0, l1, l2, .int x] S Z I J = g_at 60 44 [l0, l1, l2, .int (x + 1)] S Z I J := gq_iinc e_60_41 rfl h rfl
theorem e_60_44 : g_Pg 60 44 = ga_goto 6 := (congrFun pg_60 44).trans rfl
theorem q_60_44 {L : List Value} {S : List Value} {Z : gZ} {I : gI} {J : gJ} : g_at 60 44 L S Z I J = g_at 60 6 L S Z I J := gq_goto e_60_44
theorem e_60_47 : g_Pg 60 47 = ga_push (.int 0) 48 := (congrFun pg_60 47).trans rfl
theorem q_60_47 {L : List Value} {S : List Value} {Z : gZ} {I : gI} {J : gJ} : g_at 60 47 L S Z I J = g_at 60 48 L (.int 0 :: S) Z I J := gq_push e_60_47
theorem e_60_48 : g_Pg 60 48 = ga_zret := (congrFun pg_60 48).trans rfl
theorem q_60_48 {L : List Value} {x : Int32} {Z : gZ} {I : gI} {J : gJ} (h : gB01 x = true) : g_at 60 48 L [.int x] Z I J = some (some (.int x), Z, I, J) := gq_zret e_60_48 h
theorem e_61_0 : g_Pg 61 0 = ga_aload 0 1 := (congrFun pg_61 0).trans rfl
theorem q_61_0 {l1 : Value} {x : Nat} {S : List Value} {Z : gZ} {I : gI} {J : gJ} : g_at 61 0 [.ref x, l1] S Z I J = g_at 61 1 [.ref x, l1] (.ref x :: S) Z I J := gq_aload e_61_0 rfl
theorem e_61_1 : g_Pg 61 1 = ga_getR 6 1 4 := (congrFun pg_61 1).trans rfl
theorem q_61_1 {L : List Value} {a : Nat} {S : List Value} {Z : gZ} {I : gI} {J : gJ} (h : (gKd Z a).1 = 6) (h1 : gRs Z a 1 = true) : g_at 61 1 L (.ref a :: S) Z I J = g_at 61 4 L (.ref (gRq Z a 1) :: S) Z I J := gq_getR e_61_1 h h1
theorem e_61_4 : g_Pg 61 4 = ga_iload 1 5 := (congrFun pg_61 4).trans rfl
theorem q_61_4 {l0 : Value} {x : Int32} {S : List Value} {Z : gZ} {I : gI} {J : gJ} : g_at 61 4 [l0, .int x] S Z I J = g_at 61 5 [l0, .int x] (.int x :: S) Z I J := gq_iload e_61_4 rfl
theorem e_61_5 : g_Pg 61 5 = ga_callV 0 3 1 8 := (congrFun pg_61 5).trans rfl
theorem q_61_5 {L : List Value} {a0 : Int32} {a1 : Nat} {Z : gZ} {I : gI} {J : gJ} (h : (gKd Z a1).1 = 0) : g_at 61 5 L [.int a0, .ref a1] Z I J = (g_at 3 0 [.ref a1, .int a0] [] Z I J).bind (fun r => g_at 61 8 L (r.1.toList ++ []) r.2.1 r.2.2.1 r.2.2.2) := gq_callV e_61_5 rfl rfl h rfl rfl rfl rfl rfl
theorem e_61_8 : g_Pg 61 8 = ga_if (fun x => decide (x = 0)) 26 11 := (congrFun pg_61 8).trans rfl
theorem q_61_8 {L : List Value} {x : Int32} {S : List Value} {Z : gZ} {I : gI} {J : gJ} : g_at 61 8 L (.int x :: S) Z I J = if x = 0 then g_at 61 26 L S Z I J else g_at 61 11 L S Z I J := gq_if e_61_8 rfl
theorem e_61_11 : g_Pg 61 11 = ga_aload 0 12 := (congrFun pg_61 11).trans rfl
theorem q_61_11 {l1 : Value} {x : Nat} {S : List Value} {Z : gZ} {I : gI} {J : gJ} : g_at 61 11 [.ref x, l1] S Z I J = g_at 61 12 [.ref x, l1] (.ref x :: S) Z I J := gq_aload e_61_11 rfl
theorem e_61_12 : g_Pg 61 12 = ga_getR 6 3 15 := (congrFun pg_61 12).trans rfl
theorem q_61_12 {L : List Value} {a : Nat} {S : List Value} {Z : gZ} {I : gI} {J : gJ} (h : (gKd Z a).1 = 6) (h1 : gRs Z a 3 = true) : g_at 61 12 L (.ref a :: S) Z I J = g_at 61 15 L (.ref (gRq Z a 3) :: S) Z I J := gq_getR e_61_12 h h1
theorem e_61_15 : g_Pg 61 15 = ga_aload 0 16 := (congrFun pg_61 15).trans rfl
theorem q_61_15 {l1 : Value} {x : Nat} {S : List Value} {Z : gZ} {I : gI} {J : gJ} : g_at 61 15 [.ref x, l1] S Z I J = g_at 61 16 [.ref x, l1] (.ref x :: S) Z I J := gq_aload e_61_15 rfl
theorem e_61_16 : g_Pg 61 16 = ga_getR 6 1 19 := (congrFun pg_61 16).trans rfl
theorem q_61_16 {L : List Value} {a : Nat} {S : List Value} {Z : gZ} {I : gI} {J : gJ} (h : (gKd Z a).1 = 6) (h1 : gRs Z a 1 = true) : g_at 61 16 L (.ref a :: S) Z I J = g_at 61 19 L (.ref (gRq Z a 1) :: S) Z I J := gq_getR e_61_16 h h1
theorem e_61_19 : g_Pg 61 19 = ga_iload 1 20 := (congrFun pg_61 19).trans rfl
theorem q_61_19 {l0 : Value} {x : Int32} {S : List Value} {Z : gZ} {I : gI} {J : gJ} : g_at 61 19 [l0, .int x] S Z I J = g_at 61 20 [l0, .int x] (.int x :: S) Z I J := gq_iload e_61_19 rfl
theorem e_61_20 : g_Pg 61 20 = ga_callV 2 25 2 23 := (congrFun pg_61 20).trans rfl
theorem q_61_20 {L : List Value} {a0 : Int32} {a1 : Nat} {a2 : Nat} {Z : gZ} {I : gI} {J : gJ} (h : (gKd Z a2).1 = 2) : g_at 61 20 L [.int a0, .ref a1, .ref a2] Z I J = (g_at 25 0 [.ref a2, .ref a1, .int a0, .null, .null] [] Z I J).bind (fun r => g_at 61 23 L (r.1.toList ++ []) r.2.1 r.2.2.1 r.2.2.2) := gq_callV e_61_20 rfl rfl h rfl rfl rfl rfl rfl
theorem e_61_23 : g_Pg 61 23 = ga_goto 28 := (congrFun pg_61 23).trans rfl
theorem q_61_23 {L : List Value} {S : List Value} {Z : gZ} {I : gI} {J : gJ} : g_at 61 23 L S Z I J = g_at 61 28 L S Z I J := gq_goto e_61_23
theorem e_61_26 : g_Pg 61 26 = ga_push (.int (-2)) 28 := (congrFun pg_61 26).trans rfl
theorem q_61_26 {L : List Value} {S : List Value} {Z : gZ} {I : gI} {J : gJ} : g_at 61 26 L S Z I J = g_at 61 28 L (.int (-2) :: S) Z I J := gq_push e_61_26
theorem e_61_28 : g_Pg 61 28 = ga_iret := (congrFun pg_61 28).trans rfl
theorem q_61_28 {L : List Value} {x : Int32} {Z : gZ} {I : gI} {J : gJ} : g_at 61 28 L [.int x] Z I J = some (some (.int x), Z, I, J) := gq_iret e_61_28
theorem e_62_0 : g_Pg 62 0 = ga_iload 1 1 := (congrFun pg_62 0).trans rfl
theorem q_62_0 {l0 l2 l3 : Value} {x : Int32} {S : List Value} {Z : gZ} {I : gI} {J : gJ} : g_at 62 0 [l0, .int x, l2, l3] S Z I J = g_at 62 1 [l0, .int x, l2, l3] (.int x :: S) Z I J := gq_iload e_62_0 rfl
theorem e_62_1 : g_Pg 62 1 = ga_push (.int 1) 2 := (congrFun pg_62 1).trans rfl
theorem q_62_1 {L : List Value} {S : List Value} {Z : gZ} {I : gI} {J : gJ} : g_at 62 1 L S Z I J = g_at 62 2 L (.int 1 :: S) Z I J := gq_push e_62_1
theorem e_62_2 : g_Pg 62 2 = ga_cmp (fun x y => decide (x < y)) 11 5 := (congrFun pg_62 2).trans rfl
theorem q_62_2 {L : List Value} {x y : Int32} {S : List Value} {Z : gZ} {I : gI} {J : gJ} : g_at 62 2 L (.int y :: .int x :: S) Z I J = if x < y then g_at 62 11 L S Z I J else g_at 62 5 L S Z I J := gq_cmp e_62_2 rfl
theorem e_62_5 : g_Pg 62 5 = ga_iload 1 6 := (congrFun pg_62 5).trans rfl
theorem q_62_5 {l0 l2 l3 : Value} {x : Int32} {S : List Value} {Z : gZ} {I : gI} {J : gJ} : g_at 62 5 [l0, .int x, l2, l3] S Z I J = g_at 62 6 [l0, .int x, l2, l3] (.int x :: S) Z I J := gq_iload e_62_5 rfl
theorem e_62_6 : g_Pg 62 6 = ga_push (.int 99) 8 := (congrFun pg_62 6).trans rfl
theorem q_62_6 {L : List Value} {S : List Value} {Z : gZ} {I : gI} {J : gJ} : g_at 62 6 L S Z I J = g_at 62 8 L (.int 99 :: S) Z I J := gq_push e_62_6
theorem e_62_8 : g_Pg 62 8 = ga_cmp (fun x y => decide (x ≤ y)) 14 11 := (congrFun pg_62 8).trans rfl
theorem q_62_8 {L : List Value} {x y : Int32} {S : List Value} {Z : gZ} {I : gI} {J : gJ} : g_at 62 8 L (.int y :: .int x :: S) Z I J = if x ≤ y then g_at 62 14 L S Z I J else g_at 62 11 L S Z I J := gq_cmp e_62_8 rfl
theorem e_62_11 : g_Pg 62 11 = ga_push (.int (-3)) 13 := (congrFun pg_62 11).trans rfl
theorem q_62_11 {L : List Value} {S : List Value} {Z : gZ} {I : gI} {J : gJ} : g_at 62 11 L S Z I J = g_at 62 13 L (.int (-3) :: S) Z I J := gq_push e_62_11
theorem e_62_13 : g_Pg 62 13 = ga_iret := (congrFun pg_62 13).trans rfl
theorem q_62_13 {L : List Value} {x : Int32} {Z : gZ} {I : gI} {J : gJ} : g_at 62 13 L [.int x] Z I J = some (some (.int x), Z, I, J) := gq_iret e_62_13
theorem e_62_14 : g_Pg 62 14 = ga_aload 0 15 := (congrFun pg_62 14).trans rfl
theorem q_62_14 {l1 l2 l3 : Value} {x : Nat} {S : List Value} {Z : gZ} {I : gI} {J : gJ} : g_at 62 14 [.ref x, l1, l2, l3] S Z I J = g_at 62 15 [.ref x, l1, l2, l3] (.ref x :: S) Z I J := gq_aload e_62_14 rfl
theorem e_62_15 : g_Pg 62 15 = ga_getR 6 3 18 := (congrFun pg_62 15).trans rfl
theorem q_62_15 {L : List Value} {a : Nat} {S : List Value} {Z : gZ} {I : gI} {J : gJ} (h : (gKd Z a).1 = 6) (h1 : gRs Z a 3 = true) : g_at 62 15 L (.ref a :: S) Z I J = g_at 62 18 L (.ref (gRq Z a 3) :: S) Z I J := gq_getR e_62_15 h h1
theorem e_62_18 : g_Pg 62 18 = ga_getI 2 3 21 := (congrFun pg_62 18).trans rfl
theorem q_62_18 {L : List Value} {a : Nat} {S : List Value} {Z : gZ} {I : gI} {J : gJ} (h : (gKd Z a).1 = 2) : g_at 62 18 L (.ref a :: S) Z I J = g_at 62 21 L (.int (I a 3) :: S) Z I J := gq_getI e_62_18 h
theorem e_62_21 : g_Pg 62 21 = ga_iload 1 22 := (congrFun pg_62 21).trans rfl
theorem q_62_21 {l0 l2 l3 : Value} {x : Int32} {S : List Value} {Z : gZ} {I : gI} {J : gJ} : g_at 62 21 [l0, .int x, l2, l3] S Z I J = g_at 62 22 [l0, .int x, l2, l3] (.int x :: S) Z I J := gq_iload e_62_21 rfl
theorem e_62_22 : g_Pg 62 22 = ga_bin (fun x y => x + y) 23 := (congrFun pg_62 22).trans rfl
theorem q_62_22 {L : List Value} {x y : Int32} {S : List Value} {Z : gZ} {I : gI} {J : gJ} : g_at 62 22 L (.int y :: .int x :: S) Z I J = g_at 62 23 L (.int (x + y) :: S) Z I J := gq_bin e_62_22
theorem e_62_23 : g_Pg 62 23 = ga_push (.int 99999) 25 := (congrFun pg_62 23).trans rfl
theorem q_62_23 {L : List Value} {S : List Value} {Z : gZ} {I : gI} {J : gJ} : g_at 62 23 L S Z I J = g_at 62 25 L (.int 99999 :: S) Z I J := gq_push e_62_23
theorem e_62_25 : g_Pg 62 25 = ga_cmp (fun x y => decide (x ≤ y)) 31 28 := (congrFun pg_62 25).trans rfl
theorem q_62_25 {L : List Value} {x y : Int32} {S : List Value} {Z : gZ} {I : gI} {J : gJ} : g_at 62 25 L (.int y :: .int x :: S) Z I J = if x ≤ y then g_at 62 31 L S Z I J else g_at 62 28 L S Z I J := gq_cmp e_62_25 rfl
theorem e_62_28 : g_Pg 62 28 = ga_push (.int (-5)) 30 := (congrFun pg_62 28).trans rfl
theorem q_62_28 {L : List Value} {S : List Value} {Z : gZ} {I : gI} {J : gJ} : g_at 62 28 L S Z I J = g_at 62 30 L (.int (-5) :: S) Z I J := gq_push e_62_28
theorem e_62_30 : g_Pg 62 30 = ga_iret := (congrFun pg_62 30).trans rfl
theorem q_62_30 {L : List Value} {x : Int32} {Z : gZ} {I : gI} {J : gJ} : g_at 62 30 L [.int x] Z I J = some (some (.int x), Z, I, J) := gq_iret e_62_30
theorem e_62_31 : g_Pg 62 31 = ga_push (.int 0) 32 := (congrFun pg_62 31).trans rfl
theorem q_62_31 {L : List Value} {S : List Value} {Z : gZ} {I : gI} {J : gJ} : g_at 62 31 L S Z I J = g_at 62 32 L (.int 0 :: S) Z I J := gq_push e_62_31
theorem e_62_32 : g_Pg 62 32 = ga_istore 2 33 := (congrFun pg_62 32).trans rfl
theorem q_62_32 {l0 l1 l2 l3 : Value} {x : Int32} {S : List Value} {Z : gZ} {I : gI} {J : gJ} (h : gN1 l1 = true) : g_at 62 32 [l0, l1, l2, l3] (.int x :: S) Z I J = g_at 62 33 [l0, l1, .int x, l3] S Z I J := gq_istore e_62_32 h rfl rfl
theorem e_62_33 : g_Pg 62 33 = ga_push (.int 0) 34 := (congrFun pg_62 33).trans rfl
theorem q_62_33 {L : List Value} {S : List Value} {Z : gZ} {I : gI} {J : gJ} : g_at 62 33 L S Z I J = g_at 62 34 L (.int 0 :: S) Z I J := gq_push e_62_33
theorem e_62_34 : g_Pg 62 34 = ga_istore 3 35 := (congrFun pg_62 34).trans rfl
theorem q_62_34 {l0 l1 l2 l3 : Value} {x : Int32} {S : List Value} {Z : gZ} {I : gI} {J : gJ} (h : gN1 l2 = true) : g_at 62 34 [l0, l1, l2, l3] (.int x :: S) Z I J = g_at 62 35 [l0, l1, l2, .int x] S Z I J := gq_istore e_62_34 h rfl rfl
theorem e_62_35 : g_Pg 62 35 = ga_iload 3 36 := (congrFun pg_62 35).trans rfl
theorem q_62_35 {l0 l1 l2 : Value} {x : Int32} {S : List Value} {Z : gZ} {I : gI} {J : gJ} : g_at 62 35 [l0, l1, l2, .int x] S Z I J = g_at 62 36 [l0, l1, l2, .int x] (.int x :: S) Z I J := gq_iload e_62_35 rfl
theorem e_62_36 : g_Pg 62 36 = ga_iload 1 37 := (congrFun pg_62 36).trans rfl
theorem q_62_36 {l0 l2 l3 : Value} {x : Int32} {S : List Value} {Z : gZ} {I : gI} {J : gJ} : g_at 62 36 [l0, .int x, l2, l3] S Z I J = g_at 62 37 [l0, .int x, l2, l3] (.int x :: S) Z I J := gq_iload e_62_36 rfl
theorem e_62_37 : g_Pg 62 37 = ga_cmp (fun x y => decide (y ≤ x)) 60 40 := (congrFun pg_62 37).trans rfl
theorem q_62_37 {L : List Value} {x y : Int32} {S : List Value} {Z : gZ} {I : gI} {J : gJ} : g_at 62 37 L (.int y :: .int x :: S) Z I J = if y ≤ x then g_at 62 60 L S Z I J else g_at 62 40 L S Z I J := gq_cmp e_62_37 rfl
theorem e_62_40 : g_Pg 62 40 = ga_iload 2 41 := (congrFun pg_62 40).trans rfl
theorem q_62_40 {l0 l1 l3 : Value} {x : Int32} {S : List Value} {Z : gZ} {I : gI} {J : gJ} : g_at 62 40 [l0, l1, .int x, l3] S Z I J = g_at 62 41 [l0, l1, .int x, l3] (.int x :: S) Z I J := gq_iload e_62_40 rfl
theorem e_62_41 : g_Pg 62 41 = ga_aload 0 42 := (congrFun pg_62 41).trans rfl
theorem q_62_41 {l1 l2 l3 : Value} {x : Nat} {S : List Value} {Z : gZ} {I : gI} {J : gJ} : g_at 62 41 [.ref x, l1, l2, l3] S Z I J = g_at 62 42 [.ref x, l1, l2, l3] (.ref x :: S) Z I J := gq_aload e_62_41 rfl
theorem e_62_42 : g_Pg 62 42 = ga_getR 6 3 45 := (congrFun pg_62 42).trans rfl
theorem q_62_42 {L : List Value} {a : Nat} {S : List Value} {Z : gZ} {I : gI} {J : gJ} (h : (gKd Z a).1 = 6) (h1 : gRs Z a 3 = true) : g_at 62 42 L (.ref a :: S) Z I J = g_at 62 45 L (.ref (gRq Z a 3) :: S) Z I J := gq_getR e_62_42 h h1
theorem e_62_45 : g_Pg 62 45 = ga_aload 0 46 := (congrFun pg_62 45).trans rfl
theorem q_62_45 {l1 l2 l3 : Value} {x : Nat} {S : List Value} {Z : gZ} {I : gI} {J : gJ} : g_at 62 45 [.ref x, l1, l2, l3] S Z I J = g_at 62 46 [.ref x, l1, l2, l3] (.ref x :: S) Z I J := gq_aload e_62_45 rfl
theorem e_62_46 : g_Pg 62 46 = ga_getR 6 1 49 := (congrFun pg_62 46).trans rfl
theorem q_62_46 {L : List Value} {a : Nat} {S : List Value} {Z : gZ} {I : gI} {J : gJ} (h : (gKd Z a).1 = 6) (h1 : gRs Z a 1 = true) : g_at 62 46 L (.ref a :: S) Z I J = g_at 62 49 L (.ref (gRq Z a 1) :: S) Z I J := gq_getR e_62_46 h h1
theorem e_62_49 : g_Pg 62 49 = ga_callV 2 27 1 52 := (congrFun pg_62 49).trans rfl
theorem q_62_49 {L : List Value} {a0 : Nat} {a1 : Nat} {r2 : Int32} {Z : gZ} {I : gI} {J : gJ} (h : (gKd Z a1).1 = 2) : g_at 62 49 L [.ref a0, .ref a1, .int r2] Z I J = (g_at 27 0 [.ref a1, .ref a0, .null, .null] [] Z I J).bind (fun r => g_at 62 52 L (r.1.toList ++ [.int r2]) r.2.1 r.2.2.1 r.2.2.2) := gq_callV e_62_49 rfl rfl h rfl rfl rfl rfl rfl
theorem e_62_52 : g_Pg 62 52 = ga_bin (fun x y => x + y) 53 := (congrFun pg_62 52).trans rfl
theorem q_62_52 {L : List Value} {x y : Int32} {S : List Value} {Z : gZ} {I : gI} {J : gJ} : g_at 62 52 L (.int y :: .int x :: S) Z I J = g_at 62 53 L (.int (x + y) :: S) Z I J := gq_bin e_62_52
theorem e_62_53 : g_Pg 62 53 = ga_istore 2 54 := (congrFun pg_62 53).trans rfl
theorem q_62_53 {l0 l1 l2 l3 : Value} {x : Int32} {S : List Value} {Z : gZ} {I : gI} {J : gJ} (h : gN1 l1 = true) : g_at 62 53 [l0, l1, l2, l3] (.int x :: S) Z I J = g_at 62 54 [l0, l1, .int x, l3] S Z I J := gq_istore e_62_53 h rfl rfl
theorem e_62_54 : g_Pg 62 54 = ga_iinc 3 1 57 := (congrFun pg_62 54).trans rfl
theorem q_62_54 {l0 l1 l2 : Value} {x : Int32} {S : List Value} {Z : gZ} {I : gI} {J : gJ} (h : gN1 l2 = true) : g_at 62 54 [l0, l1, l2, .int x] S Z I J = g_at 62 57 [l0, l1, l2, .int (x + 1)] S Z I J := gq_iinc e_62_54 rfl h rfl
theorem e_62_57 : g_Pg 62 57 = ga_goto 35 := (congrFun pg_62 57).trans rfl
theorem q_62_57 {L : List Value} {S : List Value} {Z : gZ} {I : gI} {J : gJ} : g_at 62 57 L S Z I J = g_at 62 35 L S Z I J := gq_goto e_62_57
theorem e_62_60 : g_Pg 62 60 = ga_iload 2 61 := (congrFun pg_62 60).trans rfl
theorem q_62_60 {l0 l1 l3 : Value} {x : Int32} {S : List Value} {Z : gZ} {I : gI} {J : gJ} : g_at 62 60 [l0, l1, .int x, l3] S Z I J = g_at 62 61 [l0, l1, .int x, l3] (.int x :: S) Z I J := gq_iload e_62_60 rfl
theorem e_62_61 : g_Pg 62 61 = ga_iret := (congrFun pg_62 61).trans rfl
theorem q_62_61 {L : List Value} {x : Int32} {Z : gZ} {I : gI} {J : gJ} : g_at 62 61 L [.int x] Z I J = some (some (.int x), Z, I, J) := gq_iret e_62_61
theorem e_63_0 : g_Pg 63 0 = ga_iload 1 1 := (congrFun pg_63 0).trans rfl
theorem q_63_0 {l0 l2 : Value} {x : Int32} {S : List Value} {Z : gZ} {I : gI} {J : gJ} : g_at 63 0 [l0, .int x, l2] S Z I J = g_at 63 1 [l0, .int x, l2] (.int x :: S) Z I J := gq_iload e_63_0 rfl
theorem e_63_1 : g_Pg 63 1 = ga_if (fun x => decide (x < 0)) 9 4 := (congrFun pg_63 1).trans rfl
theorem q_63_1 {L : List Value} {x : Int32} {S : List Value} {Z : gZ} {I : gI} {J : gJ} : g_at 63 1 L (.int x :: S) Z I J = if x < 0 then g_at 63 9 L S Z I J else g_at 63 4 L S Z I J := gq_if e_63_1 rfl
theorem e_63_4 : g_Pg 63 4 = ga_iload 1 5 := (congrFun pg_63 4).trans rfl
theorem q_63_4 {l0 l2 : Value} {x : Int32} {S : List Value} {Z : gZ} {I : gI} {J : gJ} : g_at 63 4 [l0, .int x, l2] S Z I J = g_at 63 5 [l0, .int x, l2] (.int x :: S) Z I J := gq_iload e_63_4 rfl
theorem e_63_5 : g_Pg 63 5 = ga_push (.int 2) 6 := (congrFun pg_63 5).trans rfl
theorem q_63_5 {L : List Value} {S : List Value} {Z : gZ} {I : gI} {J : gJ} : g_at 63 5 L S Z I J = g_at 63 6 L (.int 2 :: S) Z I J := gq_push e_63_5
theorem e_63_6 : g_Pg 63 6 = ga_cmp (fun x y => decide (x ≤ y)) 12 9 := (congrFun pg_63 6).trans rfl
theorem q_63_6 {L : List Value} {x y : Int32} {S : List Value} {Z : gZ} {I : gI} {J : gJ} : g_at 63 6 L (.int y :: .int x :: S) Z I J = if x ≤ y then g_at 63 12 L S Z I J else g_at 63 9 L S Z I J := gq_cmp e_63_6 rfl
theorem e_63_9 : g_Pg 63 9 = ga_push (.int (-3)) 11 := (congrFun pg_63 9).trans rfl
theorem q_63_9 {L : List Value} {S : List Value} {Z : gZ} {I : gI} {J : gJ} : g_at 63 9 L S Z I J = g_at 63 11 L (.int (-3) :: S) Z I J := gq_push e_63_9
theorem e_63_11 : g_Pg 63 11 = ga_iret := (congrFun pg_63 11).trans rfl
theorem q_63_11 {L : List Value} {x : Int32} {Z : gZ} {I : gI} {J : gJ} : g_at 63 11 L [.int x] Z I J = some (some (.int x), Z, I, J) := gq_iret e_63_11
theorem e_63_12 : g_Pg 63 12 = ga_aload 0 13 := (congrFun pg_63 12).trans rfl
theorem q_63_12 {l1 l2 : Value} {x : Nat} {S : List Value} {Z : gZ} {I : gI} {J : gJ} : g_at 63 12 [.ref x, l1, l2] S Z I J = g_at 63 13 [.ref x, l1, l2] (.ref x :: S) Z I J := gq_aload e_63_12 rfl
theorem e_63_13 : g_Pg 63 13 = ga_getR 6 3 16 := (congrFun pg_63 13).trans rfl
theorem q_63_13 {L : List Value} {a : Nat} {S : List Value} {Z : gZ} {I : gI} {J : gJ} (h : (gKd Z a).1 = 6) (h1 : gRs Z a 3 = true) : g_at 63 13 L (.ref a :: S) Z I J = g_at 63 16 L (.ref (gRq Z a 3) :: S) Z I J := gq_getR e_63_13 h h1
theorem e_63_16 : g_Pg 63 16 = ga_getI 2 4 19 := (congrFun pg_63 16).trans rfl
theorem q_63_16 {L : List Value} {a : Nat} {S : List Value} {Z : gZ} {I : gI} {J : gJ} (h : (gKd Z a).1 = 2) : g_at 63 16 L (.ref a :: S) Z I J = g_at 63 19 L (.int (I a 4) :: S) Z I J := gq_getI e_63_16 h
theorem e_63_19 : g_Pg 63 19 = ga_istore 2 20 := (congrFun pg_63 19).trans rfl
theorem q_63_19 {l0 l1 l2 : Value} {x : Int32} {S : List Value} {Z : gZ} {I : gI} {J : gJ} (h : gN1 l1 = true) : g_at 63 19 [l0, l1, l2] (.int x :: S) Z I J = g_at 63 20 [l0, l1, .int x] S Z I J := gq_istore e_63_19 h rfl rfl
theorem e_63_20 : g_Pg 63 20 = ga_aload 0 21 := (congrFun pg_63 20).trans rfl
theorem q_63_20 {l1 l2 : Value} {x : Nat} {S : List Value} {Z : gZ} {I : gI} {J : gJ} : g_at 63 20 [.ref x, l1, l2] S Z I J = g_at 63 21 [.ref x, l1, l2] (.ref x :: S) Z I J := gq_aload e_63_20 rfl
theorem e_63_21 : g_Pg 63 21 = ga_getR 6 3 24 := (congrFun pg_63 21).trans rfl
theorem q_63_21 {L : List Value} {a : Nat} {S : List Value} {Z : gZ} {I : gI} {J : gJ} (h : (gKd Z a).1 = 6) (h1 : gRs Z a 3 = true) : g_at 63 21 L (.ref a :: S) Z I J = g_at 63 24 L (.ref (gRq Z a 3) :: S) Z I J := gq_getR e_63_21 h h1
theorem e_63_24 : g_Pg 63 24 = ga_iload 1 25 := (congrFun pg_63 24).trans rfl
theorem q_63_24 {l0 l2 : Value} {x : Int32} {S : List Value} {Z : gZ} {I : gI} {J : gJ} : g_at 63 24 [l0, .int x, l2] S Z I J = g_at 63 25 [l0, .int x, l2] (.int x :: S) Z I J := gq_iload e_63_24 rfl
theorem e_63_25 : g_Pg 63 25 = ga_putI 2 4 28 := (congrFun pg_63 25).trans rfl
theorem q_63_25 {L : List Value} {a : Nat} {v : Int32} {S : List Value} {Z : gZ} {I : gI} {J : gJ} (h : (gKd Z a).1 = 2) : g_at 63 25 L (.int v :: .ref a :: S) Z I J = g_at 63 28 L S Z (va_up I a (va_up (I a) 4 v)) J := gq_putI e_63_25 h
theorem e_63_28 : g_Pg 63 28 = ga_iload 2 29 := (congrFun pg_63 28).trans rfl
theorem q_63_28 {l0 l1 : Value} {x : Int32} {S : List Value} {Z : gZ} {I : gI} {J : gJ} : g_at 63 28 [l0, l1, .int x] S Z I J = g_at 63 29 [l0, l1, .int x] (.int x :: S) Z I J := gq_iload e_63_28 rfl
theorem e_63_29 : g_Pg 63 29 = ga_iret := (congrFun pg_63 29).trans rfl
theorem q_63_29 {L : List Value} {x : Int32} {Z : gZ} {I : gI} {J : gJ} : g_at 63 29 L [.int x] Z I J = some (some (.int x), Z, I, J) := gq_iret e_63_29
theorem e_64_0 : g_Pg 64 0 = ga_iload 1 1 := (congrFun pg_64 0).trans rfl
theorem q_64_0 {l0 : Value} {x : Int32} {S : List Value} {Z : gZ} {I : gI} {J : gJ} : g_at 64 0 [l0, .int x] S Z I J = g_at 64 1 [l0, .int x] (.int x :: S) Z I J := gq_iload e_64_0 rfl
theorem e_64_1 : g_Pg 64 1 = ga_if (fun x => decide (x < 0)) 9 4 := (congrFun pg_64 1).trans rfl
theorem q_64_1 {L : List Value} {x : Int32} {S : List Value} {Z : gZ} {I : gI} {J : gJ} : g_at 64 1 L (.int x :: S) Z I J = if x < 0 then g_at 64 9 L S Z I J else g_at 64 4 L S Z I J := gq_if e_64_1 rfl
theorem e_64_4 : g_Pg 64 4 = ga_iload 1 5 := (congrFun pg_64 4).trans rfl
theorem q_64_4 {l0 : Value} {x : Int32} {S : List Value} {Z : gZ} {I : gI} {J : gJ} : g_at 64 4 [l0, .int x] S Z I J = g_at 64 5 [l0, .int x] (.int x :: S) Z I J := gq_iload e_64_4 rfl
theorem e_64_5 : g_Pg 64 5 = ga_push (.int 2) 6 := (congrFun pg_64 5).trans rfl
theorem q_64_5 {L : List Value} {S : List Value} {Z : gZ} {I : gI} {J : gJ} : g_at 64 5 L S Z I J = g_at 64 6 L (.int 2 :: S) Z I J := gq_push e_64_5
theorem e_64_6 : g_Pg 64 6 = ga_cmp (fun x y => decide (x < y)) 12 9 := (congrFun pg_64 6).trans rfl
theorem q_64_6 {L : List Value} {x y : Int32} {S : List Value} {Z : gZ} {I : gI} {J : gJ} : g_at 64 6 L (.int y :: .int x :: S) Z I J = if x < y then g_at 64 12 L S Z I J else g_at 64 9 L S Z I J := gq_cmp e_64_6 rfl
theorem e_64_9 : g_Pg 64 9 = ga_push (.int (-2)) 11 := (congrFun pg_64 9).trans rfl
theorem q_64_9 {L : List Value} {S : List Value} {Z : gZ} {I : gI} {J : gJ} : g_at 64 9 L S Z I J = g_at 64 11 L (.int (-2) :: S) Z I J := gq_push e_64_9
theorem e_64_11 : g_Pg 64 11 = ga_iret := (congrFun pg_64 11).trans rfl
theorem q_64_11 {L : List Value} {x : Int32} {Z : gZ} {I : gI} {J : gJ} : g_at 64 11 L [.int x] Z I J = some (some (.int x), Z, I, J) := gq_iret e_64_11
theorem e_64_12 : g_Pg 64 12 = ga_aload 0 13 := (congrFun pg_64 12).trans rfl
theorem q_64_12 {l1 : Value} {x : Nat} {S : List Value} {Z : gZ} {I : gI} {J : gJ} : g_at 64 12 [.ref x, l1] S Z I J = g_at 64 13 [.ref x, l1] (.ref x :: S) Z I J := gq_aload e_64_12 rfl
theorem e_64_13 : g_Pg 64 13 = ga_getR 6 4 16 := (congrFun pg_64 13).trans rfl
theorem q_64_13 {L : List Value} {a : Nat} {S : List Value} {Z : gZ} {I : gI} {J : gJ} (h : (gKd Z a).1 = 6) (h1 : gRs Z a 4 = true) : g_at 64 13 L (.ref a :: S) Z I J = g_at 64 16 L (.ref (gRq Z a 4) :: S) Z I J := gq_getR e_64_13 h h1
theorem e_64_16 : g_Pg 64 16 = ga_iload 1 17 := (congrFun pg_64 16).trans rfl
theorem q_64_16 {l0 : Value} {x : Int32} {S : List Value} {Z : gZ} {I : gI} {J : gJ} : g_at 64 16 [l0, .int x] S Z I J = g_at 64 17 [l0, .int x] (.int x :: S) Z I J := gq_iload e_64_16 rfl
theorem e_64_17 : g_Pg 64 17 = ga_aald 18 := (congrFun pg_64 17).trans rfl
theorem q_64_17 {L : List Value} {a : Nat} {i : Int32} {S : List Value} {Z : gZ} {I : gI} {J : gJ} (h : (gKd Z a).1 = 11) (h0 : 0 ≤ i) (h1 : i.toNatClampNeg < (gKd Z a).2) (h2 : gRs Z a i.toNatClampNeg = true) : g_at 64 17 L (.int i :: .ref a :: S) Z I J = g_at 64 18 L (.ref (gRq Z a i.toNatClampNeg) :: S) Z I J := gq_aald e_64_17 h h0 h1 h2
theorem e_64_18 : g_Pg 64 18 = ga_aload 0 19 := (congrFun pg_64 18).trans rfl
theorem q_64_18 {l1 : Value} {x : Nat} {S : List Value} {Z : gZ} {I : gI} {J : gJ} : g_at 64 18 [.ref x, l1] S Z I J = g_at 64 19 [.ref x, l1] (.ref x :: S) Z I J := gq_aload e_64_18 rfl
theorem e_64_19 : g_Pg 64 19 = ga_getR 6 3 22 := (congrFun pg_64 19).trans rfl
theorem q_64_19 {L : List Value} {a : Nat} {S : List Value} {Z : gZ} {I : gI} {J : gJ} (h : (gKd Z a).1 = 6) (h1 : gRs Z a 3 = true) : g_at 64 19 L (.ref a :: S) Z I J = g_at 64 22 L (.ref (gRq Z a 3) :: S) Z I J := gq_getR e_64_19 h h1
theorem e_64_22 : g_Pg 64 22 = ga_callV 2 24 1 25 := (congrFun pg_64 22).trans rfl
theorem q_64_22 {L : List Value} {a0 : Nat} {a1 : Nat} {Z : gZ} {I : gI} {J : gJ} (h : (gKd Z a1).1 = 2) : g_at 64 22 L [.ref a0, .ref a1] Z I J = (g_at 24 0 [.ref a1, .ref a0, .null] [] Z I J).bind (fun r => g_at 64 25 L (r.1.toList ++ []) r.2.1 r.2.2.1 r.2.2.2) := gq_callV e_64_22 rfl rfl h rfl rfl rfl rfl rfl
theorem e_64_25 : g_Pg 64 25 = ga_aload 0 26 := (congrFun pg_64 25).trans rfl
theorem q_64_25 {l1 : Value} {x : Nat} {S : List Value} {Z : gZ} {I : gI} {J : gJ} : g_at 64 25 [.ref x, l1] S Z I J = g_at 64 26 [.ref x, l1] (.ref x :: S) Z I J := gq_aload e_64_25 rfl
theorem e_64_26 : g_Pg 64 26 = ga_getR 6 5 29 := (congrFun pg_64 26).trans rfl
theorem q_64_26 {L : List Value} {a : Nat} {S : List Value} {Z : gZ} {I : gI} {J : gJ} (h : (gKd Z a).1 = 6) (h1 : gRs Z a 5 = true) : g_at 64 26 L (.ref a :: S) Z I J = g_at 64 29 L (.ref (gRq Z a 5) :: S) Z I J := gq_getR e_64_26 h h1
theorem e_64_29 : g_Pg 64 29 = ga_iload 1 30 := (congrFun pg_64 29).trans rfl
theorem q_64_29 {l0 : Value} {x : Int32} {S : List Value} {Z : gZ} {I : gI} {J : gJ} : g_at 64 29 [l0, .int x] S Z I J = g_at 64 30 [l0, .int x] (.int x :: S) Z I J := gq_iload e_64_29 rfl
theorem e_64_30 : g_Pg 64 30 = ga_push (.int 1) 31 := (congrFun pg_64 30).trans rfl
theorem q_64_30 {L : List Value} {S : List Value} {Z : gZ} {I : gI} {J : gJ} : g_at 64 30 L S Z I J = g_at 64 31 L (.int 1 :: S) Z I J := gq_push e_64_30
theorem e_64_31 : g_Pg 64 31 = ga_bast 32 := (congrFun pg_64 31).trans rfl
theorem q_64_31 {L : List Value} {a : Nat} {i : Int32} {v : Int32} {S : List Value} {Z : gZ} {I : gI} {J : gJ} (h : (gKd Z a).1 = 9) (h0 : 0 ≤ i) (h1 : i.toNatClampNeg < (gKd Z a).2) (h2 : gB01 v = true) : g_at 64 31 L (.int v :: .int i :: .ref a :: S) Z I J = g_at 64 32 L S Z (va_up I a (va_up (I a) i.toNatClampNeg v)) J := gq_bast e_64_31 h h0 h1 h2
theorem e_64_32 : g_Pg 64 32 = ga_aload 0 33 := (congrFun pg_64 32).trans rfl
theorem q_64_32 {l1 : Value} {x : Nat} {S : List Value} {Z : gZ} {I : gI} {J : gJ} : g_at 64 32 [.ref x, l1] S Z I J = g_at 64 33 [.ref x, l1] (.ref x :: S) Z I J := gq_aload e_64_32 rfl
theorem e_64_33 : g_Pg 64 33 = ga_getR 6 3 36 := (congrFun pg_64 33).trans rfl
theorem q_64_33 {L : List Value} {a : Nat} {S : List Value} {Z : gZ} {I : gI} {J : gJ} (h : (gKd Z a).1 = 6) (h1 : gRs Z a 3 = true) : g_at 64 33 L (.ref a :: S) Z I J = g_at 64 36 L (.ref (gRq Z a 3) :: S) Z I J := gq_getR e_64_33 h h1
theorem e_64_36 : g_Pg 64 36 = ga_getI 2 3 39 := (congrFun pg_64 36).trans rfl
theorem q_64_36 {L : List Value} {a : Nat} {S : List Value} {Z : gZ} {I : gI} {J : gJ} (h : (gKd Z a).1 = 2) : g_at 64 36 L (.ref a :: S) Z I J = g_at 64 39 L (.int (I a 3) :: S) Z I J := gq_getI e_64_36 h
theorem e_64_39 : g_Pg 64 39 = ga_iret := (congrFun pg_64 39).trans rfl
theorem q_64_39 {L : List Value} {x : Int32} {Z : gZ} {I : gI} {J : gJ} : g_at 64 39 L [.int x] Z I J = some (some (.int x), Z, I, J) := gq_iret e_64_39
theorem e_65_0 : g_Pg 65 0 = ga_iload 1 1 := (congrFun pg_65 0).trans rfl
theorem q_65_0 {l0 : Value} {x : Int32} {S : List Value} {Z : gZ} {I : gI} {J : gJ} : g_at 65 0 [l0, .int x] S Z I J = g_at 65 1 [l0, .int x] (.int x :: S) Z I J := gq_iload e_65_0 rfl
theorem e_65_1 : g_Pg 65 1 = ga_if (fun x => decide (x < 0)) 9 4 := (congrFun pg_65 1).trans rfl
theorem q_65_1 {L : List Value} {x : Int32} {S : List Value} {Z : gZ} {I : gI} {J : gJ} : g_at 65 1 L (.int x :: S) Z I J = if x < 0 then g_at 65 9 L S Z I J else g_at 65 4 L S Z I J := gq_if e_65_1 rfl
theorem e_65_4 : g_Pg 65 4 = ga_iload 1 5 := (congrFun pg_65 4).trans rfl
theorem q_65_4 {l0 : Value} {x : Int32} {S : List Value} {Z : gZ} {I : gI} {J : gJ} : g_at 65 4 [l0, .int x] S Z I J = g_at 65 5 [l0, .int x] (.int x :: S) Z I J := gq_iload e_65_4 rfl
theorem e_65_5 : g_Pg 65 5 = ga_push (.int 2) 6 := (congrFun pg_65 5).trans rfl
theorem q_65_5 {L : List Value} {S : List Value} {Z : gZ} {I : gI} {J : gJ} : g_at 65 5 L S Z I J = g_at 65 6 L (.int 2 :: S) Z I J := gq_push e_65_5
theorem e_65_6 : g_Pg 65 6 = ga_cmp (fun x y => decide (x < y)) 12 9 := (congrFun pg_65 6).trans rfl
theorem q_65_6 {L : List Value} {x y : Int32} {S : List Value} {Z : gZ} {I : gI} {J : gJ} : g_at 65 6 L (.int y :: .int x :: S) Z I J = if x < y then g_at 65 12 L S Z I J else g_at 65 9 L S Z I J := gq_cmp e_65_6 rfl
theorem e_65_9 : g_Pg 65 9 = ga_push (.int (-2)) 11 := (congrFun pg_65 9).trans rfl
theorem q_65_9 {L : List Value} {S : List Value} {Z : gZ} {I : gI} {J : gJ} : g_at 65 9 L S Z I J = g_at 65 11 L (.int (-2) :: S) Z I J := gq_push e_65_9
theorem e_65_11 : g_Pg 65 11 = ga_iret := (congrFun pg_65 11).trans rfl
theorem q_65_11 {L : List Value} {x : Int32} {Z : gZ} {I : gI} {J : gJ} : g_at 65 11 L [.int x] Z I J = some (some (.int x), Z, I, J) := gq_iret e_65_11
theorem e_65_12 : g_Pg 65 12 = ga_aload 0 13 := (congrFun pg_65 12).trans rfl
theorem q_65_12 {l1 : Value} {x : Nat} {S : List Value} {Z : gZ} {I : gI} {J : gJ} : g_at 65 12 [.ref x, l1] S Z I J = g_at 65 13 [.ref x, l1] (.ref x :: S) Z I J := gq_aload e_65_12 rfl
theorem e_65_13 : g_Pg 65 13 = ga_getR 6 5 16 := (congrFun pg_65 13).trans rfl
theorem q_65_13 {L : List Value} {a : Nat} {S : List Value} {Z : gZ} {I : gI} {J : gJ} (h : (gKd Z a).1 = 6) (h1 : gRs Z a 5 = true) : g_at 65 13 L (.ref a :: S) Z I J = g_at 65 16 L (.ref (gRq Z a 5) :: S) Z I J := gq_getR e_65_13 h h1
theorem e_65_16 : g_Pg 65 16 = ga_iload 1 17 := (congrFun pg_65 16).trans rfl
theorem q_65_16 {l0 : Value} {x : Int32} {S : List Value} {Z : gZ} {I : gI} {J : gJ} : g_at 65 16 [l0, .int x] S Z I J = g_at 65 17 [l0, .int x] (.int x :: S) Z I J := gq_iload e_65_16 rfl
theorem e_65_17 : g_Pg 65 17 = ga_bald 18 := (congrFun pg_65 17).trans rfl
theorem q_65_17 {L : List Value} {a : Nat} {i : Int32} {S : List Value} {Z : gZ} {I : gI} {J : gJ} (h : gTg9 (gKd Z a).1 a = true) (h0 : 0 ≤ i) (h1 : i.toNatClampNeg < (gKd Z a).2) : g_at 65 17 L (.int i :: .ref a :: S) Z I J = g_at 65 18 L (.int (I a i.toNatClampNeg) :: S) Z I J := gq_bald e_65_17 h h0 h1
theorem e_65_18 : g_Pg 65 18 = ga_if (fun x => decide (¬ x = 0)) 24 21 := (congrFun pg_65 18).trans rfl
theorem q_65_18 {L : List Value} {x : Int32} {S : List Value} {Z : gZ} {I : gI} {J : gJ} : g_at 65 18 L (.int x :: S) Z I J = if ¬ x = 0 then g_at 65 24 L S Z I J else g_at 65 21 L S Z I J := gq_if e_65_18 rfl
theorem e_65_21 : g_Pg 65 21 = ga_push (.int (-4)) 23 := (congrFun pg_65 21).trans rfl
theorem q_65_21 {L : List Value} {S : List Value} {Z : gZ} {I : gI} {J : gJ} : g_at 65 21 L S Z I J = g_at 65 23 L (.int (-4) :: S) Z I J := gq_push e_65_21
theorem e_65_23 : g_Pg 65 23 = ga_iret := (congrFun pg_65 23).trans rfl
theorem q_65_23 {L : List Value} {x : Int32} {Z : gZ} {I : gI} {J : gJ} : g_at 65 23 L [.int x] Z I J = some (some (.int x), Z, I, J) := gq_iret e_65_23
theorem e_65_24 : g_Pg 65 24 = ga_aload 0 25 := (congrFun pg_65 24).trans rfl
theorem q_65_24 {l1 : Value} {x : Nat} {S : List Value} {Z : gZ} {I : gI} {J : gJ} : g_at 65 24 [.ref x, l1] S Z I J = g_at 65 25 [.ref x, l1] (.ref x :: S) Z I J := gq_aload e_65_24 rfl
theorem e_65_25 : g_Pg 65 25 = ga_getR 6 3 28 := (congrFun pg_65 25).trans rfl
theorem q_65_25 {L : List Value} {a : Nat} {S : List Value} {Z : gZ} {I : gI} {J : gJ} (h : (gKd Z a).1 = 6) (h1 : gRs Z a 3 = true) : g_at 65 25 L (.ref a :: S) Z I J = g_at 65 28 L (.ref (gRq Z a 3) :: S) Z I J := gq_getR e_65_25 h h1
theorem e_65_28 : g_Pg 65 28 = ga_aload 0 29 := (congrFun pg_65 28).trans rfl
theorem q_65_28 {l1 : Value} {x : Nat} {S : List Value} {Z : gZ} {I : gI} {J : gJ} : g_at 65 28 [.ref x, l1] S Z I J = g_at 65 29 [.ref x, l1] (.ref x :: S) Z I J := gq_aload e_65_28 rfl
theorem e_65_29 : g_Pg 65 29 = ga_getR 6 4 32 := (congrFun pg_65 29).trans rfl
theorem q_65_29 {L : List Value} {a : Nat} {S : List Value} {Z : gZ} {I : gI} {J : gJ} (h : (gKd Z a).1 = 6) (h1 : gRs Z a 4 = true) : g_at 65 29 L (.ref a :: S) Z I J = g_at 65 32 L (.ref (gRq Z a 4) :: S) Z I J := gq_getR e_65_29 h h1
theorem e_65_32 : g_Pg 65 32 = ga_iload 1 33 := (congrFun pg_65 32).trans rfl
theorem q_65_32 {l0 : Value} {x : Int32} {S : List Value} {Z : gZ} {I : gI} {J : gJ} : g_at 65 32 [l0, .int x] S Z I J = g_at 65 33 [l0, .int x] (.int x :: S) Z I J := gq_iload e_65_32 rfl
theorem e_65_33 : g_Pg 65 33 = ga_aald 34 := (congrFun pg_65 33).trans rfl
theorem q_65_33 {L : List Value} {a : Nat} {i : Int32} {S : List Value} {Z : gZ} {I : gI} {J : gJ} (h : (gKd Z a).1 = 11) (h0 : 0 ≤ i) (h1 : i.toNatClampNeg < (gKd Z a).2) (h2 : gRs Z a i.toNatClampNeg = true) : g_at 65 33 L (.int i :: .ref a :: S) Z I J = g_at 65 34 L (.ref (gRq Z a i.toNatClampNeg) :: S) Z I J := gq_aald e_65_33 h h0 h1 h2
theorem e_65_34 : g_Pg 65 34 = ga_callV 2 24 1 37 := (congrFun pg_65 34).trans rfl
theorem q_65_34 {L : List Value} {a0 : Nat} {a1 : Nat} {Z : gZ} {I : gI} {J : gJ} (h : (gKd Z a1).1 = 2) : g_at 65 34 L [.ref a0, .ref a1] Z I J = (g_at 24 0 [.ref a1, .ref a0, .null] [] Z I J).bind (fun r => g_at 65 37 L (r.1.toList ++ []) r.2.1 r.2.2.1 r.2.2.2) := gq_callV e_65_34 rfl rfl h rfl rfl rfl rfl rfl
theorem e_65_37 : g_Pg 65 37 = ga_aload 0 38 := (congrFun pg_65 37).trans rfl
theorem q_65_37 {l1 : Value} {x : Nat} {S : List Value} {Z : gZ} {I : gI} {J : gJ} : g_at 65 37 [.ref x, l1] S Z I J = g_at 65 38 [.ref x, l1] (.ref x :: S) Z I J := gq_aload e_65_37 rfl
theorem e_65_38 : g_Pg 65 38 = ga_getR 6 3 41 := (congrFun pg_65 38).trans rfl
theorem q_65_38 {L : List Value} {a : Nat} {S : List Value} {Z : gZ} {I : gI} {J : gJ} (h : (gKd Z a).1 = 6) (h1 : gRs Z a 3 = true) : g_at 65 38 L (.ref a :: S) Z I J = g_at 65 41 L (.ref (gRq Z a 3) :: S) Z I J := gq_getR e_65_38 h h1
theorem e_65_41 : g_Pg 65 41 = ga_getI 2 3 44 := (congrFun pg_65 41).trans rfl
theorem q_65_41 {L : List Value} {a : Nat} {S : List Value} {Z : gZ} {I : gI} {J : gJ} (h : (gKd Z a).1 = 2) : g_at 65 41 L (.ref a :: S) Z I J = g_at 65 44 L (.int (I a 3) :: S) Z I J := gq_getI e_65_41 h
theorem e_65_44 : g_Pg 65 44 = ga_iret := (congrFun pg_65 44).trans rfl
theorem q_65_44 {L : List Value} {x : Int32} {Z : gZ} {I : gI} {J : gJ} : g_at 65 44 L [.int x] Z I J = some (some (.int x), Z, I, J) := gq_iret e_65_44
theorem e_66_0 : g_Pg 66 0 = ga_aload 0 1 := (congrFun pg_66 0).trans rfl
theorem q_66_0 {l1 l2 : Value} {x : Nat} {S : List Value} {Z : gZ} {I : gI} {J : gJ} : g_at 66 0 [.ref x, l1, l2] S Z I J = g_at 66 1 [.ref x, l1, l2] (.ref x :: S) Z I J := gq_aload e_66_0 rfl
theorem e_66_1 : g_Pg 66 1 = ga_getR 6 1 4 := (congrFun pg_66 1).trans rfl
theorem q_66_1 {L : List Value} {a : Nat} {S : List Value} {Z : gZ} {I : gI} {J : gJ} (h : (gKd Z a).1 = 6) (h1 : gRs Z a 1 = true) : g_at 66 1 L (.ref a :: S) Z I J = g_at 66 4 L (.ref (gRq Z a 1) :: S) Z I J := gq_getR e_66_1 h h1
theorem e_66_4 : g_Pg 66 4 = ga_iload 1 5 := (congrFun pg_66 4).trans rfl
theorem q_66_4 {l0 l2 : Value} {x : Int32} {S : List Value} {Z : gZ} {I : gI} {J : gJ} : g_at 66 4 [l0, .int x, l2] S Z I J = g_at 66 5 [l0, .int x, l2] (.int x :: S) Z I J := gq_iload e_66_4 rfl
theorem e_66_5 : g_Pg 66 5 = ga_callV 0 3 1 8 := (congrFun pg_66 5).trans rfl
theorem q_66_5 {L : List Value} {a0 : Int32} {a1 : Nat} {Z : gZ} {I : gI} {J : gJ} (h : (gKd Z a1).1 = 0) : g_at 66 5 L [.int a0, .ref a1] Z I J = (g_at 3 0 [.ref a1, .int a0] [] Z I J).bind (fun r => g_at 66 8 L (r.1.toList ++ []) r.2.1 r.2.2.1 r.2.2.2) := gq_callV e_66_5 rfl rfl h rfl rfl rfl rfl rfl
theorem e_66_8 : g_Pg 66 8 = ga_if (fun x => decide (x = 0)) 22 11 := (congrFun pg_66 8).trans rfl
theorem q_66_8 {L : List Value} {x : Int32} {S : List Value} {Z : gZ} {I : gI} {J : gJ} : g_at 66 8 L (.int x :: S) Z I J = if x = 0 then g_at 66 22 L S Z I J else g_at 66 11 L S Z I J := gq_if e_66_8 rfl
theorem e_66_11 : g_Pg 66 11 = ga_aload 0 12 := (congrFun pg_66 11).trans rfl
theorem q_66_11 {l1 l2 : Value} {x : Nat} {S : List Value} {Z : gZ} {I : gI} {J : gJ} : g_at 66 11 [.ref x, l1, l2] S Z I J = g_at 66 12 [.ref x, l1, l2] (.ref x :: S) Z I J := gq_aload e_66_11 rfl
theorem e_66_12 : g_Pg 66 12 = ga_getR 6 1 15 := (congrFun pg_66 12).trans rfl
theorem q_66_12 {L : List Value} {a : Nat} {S : List Value} {Z : gZ} {I : gI} {J : gJ} (h : (gKd Z a).1 = 6) (h1 : gRs Z a 1 = true) : g_at 66 12 L (.ref a :: S) Z I J = g_at 66 15 L (.ref (gRq Z a 1) :: S) Z I J := gq_getR e_66_12 h h1
theorem e_66_15 : g_Pg 66 15 = ga_iload 2 16 := (congrFun pg_66 15).trans rfl
theorem q_66_15 {l0 l1 : Value} {x : Int32} {S : List Value} {Z : gZ} {I : gI} {J : gJ} : g_at 66 15 [l0, l1, .int x] S Z I J = g_at 66 16 [l0, l1, .int x] (.int x :: S) Z I J := gq_iload e_66_15 rfl
theorem e_66_16 : g_Pg 66 16 = ga_callV 0 3 1 19 := (congrFun pg_66 16).trans rfl
theorem q_66_16 {L : List Value} {a0 : Int32} {a1 : Nat} {Z : gZ} {I : gI} {J : gJ} (h : (gKd Z a1).1 = 0) : g_at 66 16 L [.int a0, .ref a1] Z I J = (g_at 3 0 [.ref a1, .int a0] [] Z I J).bind (fun r => g_at 66 19 L (r.1.toList ++ []) r.2.1 r.2.2.1 r.2.2.2) := gq_callV e_66_16 rfl rfl h rfl rfl rfl rfl rfl
theorem e_66_19 : g_Pg 66 19 = ga_if (fun x => decide (¬ x = 0)) 25 22 := (congrFun pg_66 19).trans rfl
theorem q_66_19 {L : List Value} {x : Int32} {S : List Value} {Z : gZ} {I : gI} {J : gJ} : g_at 66 19 L (.int x :: S) Z I J = if ¬ x = 0 then g_at 66 25 L S Z I J else g_at 66 22 L S Z I J := gq_if e_66_19 rfl
theorem e_66_22 : g_Pg 66 22 = ga_push (.int (-2)) 24 := (congrFun pg_66 22).trans rfl
theorem q_66_22 {L : List Value} {S : List Value} {Z : gZ} {I : gI} {J : gJ} : g_at 66 22 L S Z I J = g_at 66 24 L (.int (-2) :: S) Z I J := gq_push e_66_22
theorem e_66_24 : g_Pg 66 24 = ga_iret := (congrFun pg_66 24).trans rfl
theorem q_66_24 {L : List Value} {x : Int32} {Z : gZ} {I : gI} {J : gJ} : g_at 66 24 L [.int x] Z I J = some (some (.int x), Z, I, J) := gq_iret e_66_24
theorem e_66_25 : g_Pg 66 25 = ga_aload 0 26 := (congrFun pg_66 25).trans rfl
theorem q_66_25 {l1 l2 : Value} {x : Nat} {S : List Value} {Z : gZ} {I : gI} {J : gJ} : g_at 66 25 [.ref x, l1, l2] S Z I J = g_at 66 26 [.ref x, l1, l2] (.ref x :: S) Z I J := gq_aload e_66_25 rfl
theorem e_66_26 : g_Pg 66 26 = ga_callV 6 75 0 29 := (congrFun pg_66 26).trans rfl
theorem q_66_26 {L : List Value} {a0 : Nat} {Z : gZ} {I : gI} {J : gJ} (h : (gKd Z a0).1 = 6) : g_at 66 26 L [.ref a0] Z I J = (g_at 75 0 [.ref a0] [] Z I J).bind (fun r => g_at 66 29 L (r.1.toList ++ []) r.2.1 r.2.2.1 r.2.2.2) := gq_callV e_66_26 rfl rfl h rfl rfl rfl rfl rfl
theorem e_66_29 : g_Pg 66 29 = ga_iload 1 30 := (congrFun pg_66 29).trans rfl
theorem q_66_29 {l0 l2 : Value} {x : Int32} {S : List Value} {Z : gZ} {I : gI} {J : gJ} : g_at 66 29 [l0, .int x, l2] S Z I J = g_at 66 30 [l0, .int x, l2] (.int x :: S) Z I J := gq_iload e_66_29 rfl
theorem e_66_30 : g_Pg 66 30 = ga_iload 2 31 := (congrFun pg_66 30).trans rfl
theorem q_66_30 {l0 l1 : Value} {x : Int32} {S : List Value} {Z : gZ} {I : gI} {J : gJ} : g_at 66 30 [l0, l1, .int x] S Z I J = g_at 66 31 [l0, l1, .int x] (.int x :: S) Z I J := gq_iload e_66_30 rfl
theorem e_66_31 : g_Pg 66 31 = ga_callV 1 10 2 34 := (congrFun pg_66 31).trans rfl
theorem q_66_31 {L : List Value} {a0 : Int32} {a1 : Int32} {a2 : Nat} {Z : gZ} {I : gI} {J : gJ} (h : (gKd Z a2).1 = 1) : g_at 66 31 L [.int a0, .int a1, .ref a2] Z I J = (g_at 10 0 [.ref a2, .int a1, .int a0, .null] [] Z I J).bind (fun r => g_at 66 34 L (r.1.toList ++ []) r.2.1 r.2.2.1 r.2.2.2) := gq_callV e_66_31 rfl rfl h rfl rfl rfl rfl rfl
theorem e_66_34 : g_Pg 66 34 = ga_iret := (congrFun pg_66 34).trans rfl
theorem q_66_34 {L : List Value} {x : Int32} {Z : gZ} {I : gI} {J : gJ} : g_at 66 34 L [.int x] Z I J = some (some (.int x), Z, I, J) := gq_iret e_66_34
theorem e_67_0 : g_Pg 67 0 = ga_aload 0 1 := (congrFun pg_67 0).trans rfl
theorem q_67_0 {l1 : Value} {x : Nat} {S : List Value} {Z : gZ} {I : gI} {J : gJ} : g_at 67 0 [.ref x, l1] S Z I J = g_at 67 1 [.ref x, l1] (.ref x :: S) Z I J := gq_aload e_67_0 rfl
theorem e_67_1 : g_Pg 67 1 = ga_getR 6 1 4 := (congrFun pg_67 1).trans rfl
theorem q_67_1 {L : List Value} {a : Nat} {S : List Value} {Z : gZ} {I : gI} {J : gJ} (h : (gKd Z a).1 = 6) (h1 : gRs Z a 1 = true) : g_at 67 1 L (.ref a :: S) Z I J = g_at 67 4 L (.ref (gRq Z a 1) :: S) Z I J := gq_getR e_67_1 h h1
theorem e_67_4 : g_Pg 67 4 = ga_iload 1 5 := (congrFun pg_67 4).trans rfl
theorem q_67_4 {l0 : Value} {x : Int32} {S : List Value} {Z : gZ} {I : gI} {J : gJ} : g_at 67 4 [l0, .int x] S Z I J = g_at 67 5 [l0, .int x] (.int x :: S) Z I J := gq_iload e_67_4 rfl
theorem e_67_5 : g_Pg 67 5 = ga_callV 0 3 1 8 := (congrFun pg_67 5).trans rfl
theorem q_67_5 {L : List Value} {a0 : Int32} {a1 : Nat} {Z : gZ} {I : gI} {J : gJ} (h : (gKd Z a1).1 = 0) : g_at 67 5 L [.int a0, .ref a1] Z I J = (g_at 3 0 [.ref a1, .int a0] [] Z I J).bind (fun r => g_at 67 8 L (r.1.toList ++ []) r.2.1 r.2.2.1 r.2.2.2) := gq_callV e_67_5 rfl rfl h rfl rfl rfl rfl rfl
theorem e_67_8 : g_Pg 67 8 = ga_if (fun x => decide (x = 0)) 22 11 := (congrFun pg_67 8).trans rfl
theorem q_67_8 {L : List Value} {x : Int32} {S : List Value} {Z : gZ} {I : gI} {J : gJ} : g_at 67 8 L (.int x :: S) Z I J = if x = 0 then g_at 67 22 L S Z I J else g_at 67 11 L S Z I J := gq_if e_67_8 rfl
theorem e_67_11 : g_Pg 67 11 = ga_aload 0 12 := (congrFun pg_67 11).trans rfl
theorem q_67_11 {l1 : Value} {x : Nat} {S : List Value} {Z : gZ} {I : gI} {J : gJ} : g_at 67 11 [.ref x, l1] S Z I J = g_at 67 12 [.ref x, l1] (.ref x :: S) Z I J := gq_aload e_67_11 rfl
theorem e_67_12 : g_Pg 67 12 = ga_callV 6 75 0 15 := (congrFun pg_67 12).trans rfl
theorem q_67_12 {L : List Value} {a0 : Nat} {Z : gZ} {I : gI} {J : gJ} (h : (gKd Z a0).1 = 6) : g_at 67 12 L [.ref a0] Z I J = (g_at 75 0 [.ref a0] [] Z I J).bind (fun r => g_at 67 15 L (r.1.toList ++ []) r.2.1 r.2.2.1 r.2.2.2) := gq_callV e_67_12 rfl rfl h rfl rfl rfl rfl rfl
theorem e_67_15 : g_Pg 67 15 = ga_iload 1 16 := (congrFun pg_67 15).trans rfl
theorem q_67_15 {l0 : Value} {x : Int32} {S : List Value} {Z : gZ} {I : gI} {J : gJ} : g_at 67 15 [l0, .int x] S Z I J = g_at 67 16 [l0, .int x] (.int x :: S) Z I J := gq_iload e_67_15 rfl
theorem e_67_16 : g_Pg 67 16 = ga_callV 1 12 1 19 := (congrFun pg_67 16).trans rfl
theorem q_67_16 {L : List Value} {a0 : Int32} {a1 : Nat} {Z : gZ} {I : gI} {J : gJ} (h : (gKd Z a1).1 = 1) : g_at 67 16 L [.int a0, .ref a1] Z I J = (g_at 12 0 [.ref a1, .int a0, .null, .null] [] Z I J).bind (fun r => g_at 67 19 L (r.1.toList ++ []) r.2.1 r.2.2.1 r.2.2.2) := gq_callV e_67_16 rfl rfl h rfl rfl rfl rfl rfl
theorem e_67_19 : g_Pg 67 19 = ga_goto 24 := (congrFun pg_67 19).trans rfl
theorem q_67_19 {L : List Value} {S : List Value} {Z : gZ} {I : gI} {J : gJ} : g_at 67 19 L S Z I J = g_at 67 24 L S Z I J := gq_goto e_67_19
theorem e_67_22 : g_Pg 67 22 = ga_push (.int (-2)) 24 := (congrFun pg_67 22).trans rfl
theorem q_67_22 {L : List Value} {S : List Value} {Z : gZ} {I : gI} {J : gJ} : g_at 67 22 L S Z I J = g_at 67 24 L (.int (-2) :: S) Z I J := gq_push e_67_22
theorem e_67_24 : g_Pg 67 24 = ga_iret := (congrFun pg_67 24).trans rfl
theorem q_67_24 {L : List Value} {x : Int32} {Z : gZ} {I : gI} {J : gJ} : g_at 67 24 L [.int x] Z I J = some (some (.int x), Z, I, J) := gq_iret e_67_24
theorem e_68_0 : g_Pg 68 0 = ga_aload 0 1 := (congrFun pg_68 0).trans rfl
theorem q_68_0 {l1 : Value} {x : Nat} {S : List Value} {Z : gZ} {I : gI} {J : gJ} : g_at 68 0 [.ref x, l1] S Z I J = g_at 68 1 [.ref x, l1] (.ref x :: S) Z I J := gq_aload e_68_0 rfl
theorem e_68_1 : g_Pg 68 1 = ga_getR 6 1 4 := (congrFun pg_68 1).trans rfl
theorem q_68_1 {L : List Value} {a : Nat} {S : List Value} {Z : gZ} {I : gI} {J : gJ} (h : (gKd Z a).1 = 6) (h1 : gRs Z a 1 = true) : g_at 68 1 L (.ref a :: S) Z I J = g_at 68 4 L (.ref (gRq Z a 1) :: S) Z I J := gq_getR e_68_1 h h1
theorem e_68_4 : g_Pg 68 4 = ga_iload 1 5 := (congrFun pg_68 4).trans rfl
theorem q_68_4 {l0 : Value} {x : Int32} {S : List Value} {Z : gZ} {I : gI} {J : gJ} : g_at 68 4 [l0, .int x] S Z I J = g_at 68 5 [l0, .int x] (.int x :: S) Z I J := gq_iload e_68_4 rfl
theorem e_68_5 : g_Pg 68 5 = ga_callV 0 3 1 8 := (congrFun pg_68 5).trans rfl
theorem q_68_5 {L : List Value} {a0 : Int32} {a1 : Nat} {Z : gZ} {I : gI} {J : gJ} (h : (gKd Z a1).1 = 0) : g_at 68 5 L [.int a0, .ref a1] Z I J = (g_at 3 0 [.ref a1, .int a0] [] Z I J).bind (fun r => g_at 68 8 L (r.1.toList ++ []) r.2.1 r.2.2.1 r.2.2.2) := gq_callV e_68_5 rfl rfl h rfl rfl rfl rfl rfl
theorem e_68_8 : g_Pg 68 8 = ga_if (fun x => decide (x = 0)) 22 11 := (congrFun pg_68 8).trans rfl
theorem q_68_8 {L : List Value} {x : Int32} {S : List Value} {Z : gZ} {I : gI} {J : gJ} : g_at 68 8 L (.int x :: S) Z I J = if x = 0 then g_at 68 22 L S Z I J else g_at 68 11 L S Z I J := gq_if e_68_8 rfl
theorem e_68_11 : g_Pg 68 11 = ga_aload 0 12 := (congrFun pg_68 11).trans rfl
theorem q_68_11 {l1 : Value} {x : Nat} {S : List Value} {Z : gZ} {I : gI} {J : gJ} : g_at 68 11 [.ref x, l1] S Z I J = g_at 68 12 [.ref x, l1] (.ref x :: S) Z I J := gq_aload e_68_11 rfl
theorem e_68_12 : g_Pg 68 12 = ga_callV 6 75 0 15 := (congrFun pg_68 12).trans rfl
theorem q_68_12 {L : List Value} {a0 : Nat} {Z : gZ} {I : gI} {J : gJ} (h : (gKd Z a0).1 = 6) : g_at 68 12 L [.ref a0] Z I J = (g_at 75 0 [.ref a0] [] Z I J).bind (fun r => g_at 68 15 L (r.1.toList ++ []) r.2.1 r.2.2.1 r.2.2.2) := gq_callV e_68_12 rfl rfl h rfl rfl rfl rfl rfl
theorem e_68_15 : g_Pg 68 15 = ga_iload 1 16 := (congrFun pg_68 15).trans rfl
theorem q_68_15 {l0 : Value} {x : Int32} {S : List Value} {Z : gZ} {I : gI} {J : gJ} : g_at 68 15 [l0, .int x] S Z I J = g_at 68 16 [l0, .int x] (.int x :: S) Z I J := gq_iload e_68_15 rfl
theorem e_68_16 : g_Pg 68 16 = ga_callV 1 13 1 19 := (congrFun pg_68 16).trans rfl
theorem q_68_16 {L : List Value} {a0 : Int32} {a1 : Nat} {Z : gZ} {I : gI} {J : gJ} (h : (gKd Z a1).1 = 1) : g_at 68 16 L [.int a0, .ref a1] Z I J = (g_at 13 0 [.ref a1, .int a0, .null, .null] [] Z I J).bind (fun r => g_at 68 19 L (r.1.toList ++ []) r.2.1 r.2.2.1 r.2.2.2) := gq_callV e_68_16 rfl rfl h rfl rfl rfl rfl rfl
theorem e_68_19 : g_Pg 68 19 = ga_goto 24 := (congrFun pg_68 19).trans rfl
theorem q_68_19 {L : List Value} {S : List Value} {Z : gZ} {I : gI} {J : gJ} : g_at 68 19 L S Z I J = g_at 68 24 L S Z I J := gq_goto e_68_19
theorem e_68_22 : g_Pg 68 22 = ga_push (.int (-2)) 24 := (congrFun pg_68 22).trans rfl
theorem q_68_22 {L : List Value} {S : List Value} {Z : gZ} {I : gI} {J : gJ} : g_at 68 22 L S Z I J = g_at 68 24 L (.int (-2) :: S) Z I J := gq_push e_68_22
theorem e_68_24 : g_Pg 68 24 = ga_iret := (congrFun pg_68 24).trans rfl
theorem q_68_24 {L : List Value} {x : Int32} {Z : gZ} {I : gI} {J : gJ} : g_at 68 24 L [.int x] Z I J = some (some (.int x), Z, I, J) := gq_iret e_68_24
theorem e_69_0 : g_Pg 69 0 = ga_aload 0 1 := (congrFun pg_69 0).trans rfl
theorem q_69_0 {l1 : Value} {x : Nat} {S : List Value} {Z : gZ} {I : gI} {J : gJ} : g_at 69 0 [.ref x, l1] S Z I J = g_at 69 1 [.ref x, l1] (.ref x :: S) Z I J := gq_aload e_69_0 rfl
theorem e_69_1 : g_Pg 69 1 = ga_getR 6 1 4 := (congrFun pg_69 1).trans rfl
theorem q_69_1 {L : List Value} {a : Nat} {S : List Value} {Z : gZ} {I : gI} {J : gJ} (h : (gKd Z a).1 = 6) (h1 : gRs Z a 1 = true) : g_at 69 1 L (.ref a :: S) Z I J = g_at 69 4 L (.ref (gRq Z a 1) :: S) Z I J := gq_getR e_69_1 h h1
theorem e_69_4 : g_Pg 69 4 = ga_iload 1 5 := (congrFun pg_69 4).trans rfl
theorem q_69_4 {l0 : Value} {x : Int32} {S : List Value} {Z : gZ} {I : gI} {J : gJ} : g_at 69 4 [l0, .int x] S Z I J = g_at 69 5 [l0, .int x] (.int x :: S) Z I J := gq_iload e_69_4 rfl
theorem e_69_5 : g_Pg 69 5 = ga_callV 0 3 1 8 := (congrFun pg_69 5).trans rfl
theorem q_69_5 {L : List Value} {a0 : Int32} {a1 : Nat} {Z : gZ} {I : gI} {J : gJ} (h : (gKd Z a1).1 = 0) : g_at 69 5 L [.int a0, .ref a1] Z I J = (g_at 3 0 [.ref a1, .int a0] [] Z I J).bind (fun r => g_at 69 8 L (r.1.toList ++ []) r.2.1 r.2.2.1 r.2.2.2) := gq_callV e_69_5 rfl rfl h rfl rfl rfl rfl rfl
theorem e_69_8 : g_Pg 69 8 = ga_if (fun x => decide (x = 0)) 22 11 := (congrFun pg_69 8).trans rfl
theorem q_69_8 {L : List Value} {x : Int32} {S : List Value} {Z : gZ} {I : gI} {J : gJ} : g_at 69 8 L (.int x :: S) Z I J = if x = 0 then g_at 69 22 L S Z I J else g_at 69 11 L S Z I J := gq_if e_69_8 rfl
theorem e_69_11 : g_Pg 69 11 = ga_aload 0 12 := (congrFun pg_69 11).trans rfl
theorem q_69_11 {l1 : Value} {x : Nat} {S : List Value} {Z : gZ} {I : gI} {J : gJ} : g_at 69 11 [.ref x, l1] S Z I J = g_at 69 12 [.ref x, l1] (.ref x :: S) Z I J := gq_aload e_69_11 rfl
theorem e_69_12 : g_Pg 69 12 = ga_callV 6 75 0 15 := (congrFun pg_69 12).trans rfl
theorem q_69_12 {L : List Value} {a0 : Nat} {Z : gZ} {I : gI} {J : gJ} (h : (gKd Z a0).1 = 6) : g_at 69 12 L [.ref a0] Z I J = (g_at 75 0 [.ref a0] [] Z I J).bind (fun r => g_at 69 15 L (r.1.toList ++ []) r.2.1 r.2.2.1 r.2.2.2) := gq_callV e_69_12 rfl rfl h rfl rfl rfl rfl rfl
theorem e_69_15 : g_Pg 69 15 = ga_iload 1 16 := (congrFun pg_69 15).trans rfl
theorem q_69_15 {l0 : Value} {x : Int32} {S : List Value} {Z : gZ} {I : gI} {J : gJ} : g_at 69 15 [l0, .int x] S Z I J = g_at 69 16 [l0, .int x] (.int x :: S) Z I J := gq_iload e_69_15 rfl
theorem e_69_16 : g_Pg 69 16 = ga_callV 1 11 1 19 := (congrFun pg_69 16).trans rfl
theorem q_69_16 {L : List Value} {a0 : Int32} {a1 : Nat} {Z : gZ} {I : gI} {J : gJ} (h : (gKd Z a1).1 = 1) : g_at 69 16 L [.int a0, .ref a1] Z I J = (g_at 11 0 [.ref a1, .int a0, .null] [] Z I J).bind (fun r => g_at 69 19 L (r.1.toList ++ []) r.2.1 r.2.2.1 r.2.2.2) := gq_callV e_69_16 rfl rfl h rfl rfl rfl rfl rfl
theorem e_69_19 : g_Pg 69 19 = ga_goto 24 := (congrFun pg_69 19).trans rfl
theorem q_69_19 {L : List Value} {S : List Value} {Z : gZ} {I : gI} {J : gJ} : g_at 69 19 L S Z I J = g_at 69 24 L S Z I J := gq_goto e_69_19
theorem e_69_22 : g_Pg 69 22 = ga_push (.int (-2)) 24 := (congrFun pg_69 22).trans rfl
theorem q_69_22 {L : List Value} {S : List Value} {Z : gZ} {I : gI} {J : gJ} : g_at 69 22 L S Z I J = g_at 69 24 L (.int (-2) :: S) Z I J := gq_push e_69_22
theorem e_69_24 : g_Pg 69 24 = ga_iret := (congrFun pg_69 24).trans rfl
theorem q_69_24 {L : List Value} {x : Int32} {Z : gZ} {I : gI} {J : gJ} : g_at 69 24 L [.int x] Z I J = some (some (.int x), Z, I, J) := gq_iret e_69_24
theorem e_70_0 : g_Pg 70 0 = ga_aload 0 1 := (congrFun pg_70 0).trans rfl
theorem q_70_0 {l1 l2 l3 : Value} {x : Nat} {S : List Value} {Z : gZ} {I : gI} {J : gJ} : g_at 70 0 [.ref x, l1, l2, l3] S Z I J = g_at 70 1 [.ref x, l1, l2, l3] (.ref x :: S) Z I J := gq_aload e_70_0 rfl
theorem e_70_1 : g_Pg 70 1 = ga_getR 6 1 4 := (congrFun pg_70 1).trans rfl
theorem q_70_1 {L : List Value} {a : Nat} {S : List Value} {Z : gZ} {I : gI} {J : gJ} (h : (gKd Z a).1 = 6) (h1 : gRs Z a 1 = true) : g_at 70 1 L (.ref a :: S) Z I J = g_at 70 4 L (.ref (gRq Z a 1) :: S) Z I J := gq_getR e_70_1 h h1
theorem e_70_4 : g_Pg 70 4 = ga_iload 1 5 := (congrFun pg_70 4).trans rfl
theorem q_70_4 {l0 l2 l3 : Value} {x : Int32} {S : List Value} {Z : gZ} {I : gI} {J : gJ} : g_at 70 4 [l0, .int x, l2, l3] S Z I J = g_at 70 5 [l0, .int x, l2, l3] (.int x :: S) Z I J := gq_iload e_70_4 rfl
theorem e_70_5 : g_Pg 70 5 = ga_callV 0 3 1 8 := (congrFun pg_70 5).trans rfl
theorem q_70_5 {L : List Value} {a0 : Int32} {a1 : Nat} {Z : gZ} {I : gI} {J : gJ} (h : (gKd Z a1).1 = 0) : g_at 70 5 L [.int a0, .ref a1] Z I J = (g_at 3 0 [.ref a1, .int a0] [] Z I J).bind (fun r => g_at 70 8 L (r.1.toList ++ []) r.2.1 r.2.2.1 r.2.2.2) := gq_callV e_70_5 rfl rfl h rfl rfl rfl rfl rfl
theorem e_70_8 : g_Pg 70 8 = ga_if (fun x => decide (x = 0)) 22 11 := (congrFun pg_70 8).trans rfl
theorem q_70_8 {L : List Value} {x : Int32} {S : List Value} {Z : gZ} {I : gI} {J : gJ} : g_at 70 8 L (.int x :: S) Z I J = if x = 0 then g_at 70 22 L S Z I J else g_at 70 11 L S Z I J := gq_if e_70_8 rfl
theorem e_70_11 : g_Pg 70 11 = ga_aload 0 12 := (congrFun pg_70 11).trans rfl
theorem q_70_11 {l1 l2 l3 : Value} {x : Nat} {S : List Value} {Z : gZ} {I : gI} {J : gJ} : g_at 70 11 [.ref x, l1, l2, l3] S Z I J = g_at 70 12 [.ref x, l1, l2, l3] (.ref x :: S) Z I J := gq_aload e_70_11 rfl
theorem e_70_12 : g_Pg 70 12 = ga_getR 6 1 15 := (congrFun pg_70 12).trans rfl
theorem q_70_12 {L : List Value} {a : Nat} {S : List Value} {Z : gZ} {I : gI} {J : gJ} (h : (gKd Z a).1 = 6) (h1 : gRs Z a 1 = true) : g_at 70 12 L (.ref a :: S) Z I J = g_at 70 15 L (.ref (gRq Z a 1) :: S) Z I J := gq_getR e_70_12 h h1
theorem e_70_15 : g_Pg 70 15 = ga_iload 2 16 := (congrFun pg_70 15).trans rfl
theorem q_70_15 {l0 l1 l3 : Value} {x : Int32} {S : List Value} {Z : gZ} {I : gI} {J : gJ} : g_at 70 15 [l0, l1, .int x, l3] S Z I J = g_at 70 16 [l0, l1, .int x, l3] (.int x :: S) Z I J := gq_iload e_70_15 rfl
theorem e_70_16 : g_Pg 70 16 = ga_callV 0 3 1 19 := (congrFun pg_70 16).trans rfl
theorem q_70_16 {L : List Value} {a0 : Int32} {a1 : Nat} {Z : gZ} {I : gI} {J : gJ} (h : (gKd Z a1).1 = 0) : g_at 70 16 L [.int a0, .ref a1] Z I J = (g_at 3 0 [.ref a1, .int a0] [] Z I J).bind (fun r => g_at 70 19 L (r.1.toList ++ []) r.2.1 r.2.2.1 r.2.2.2) := gq_callV e_70_16 rfl rfl h rfl rfl rfl rfl rfl
theorem e_70_19 : g_Pg 70 19 = ga_if (fun x => decide (¬ x = 0)) 25 22 := (congrFun pg_70 19).trans rfl
theorem q_70_19 {L : List Value} {x : Int32} {S : List Value} {Z : gZ} {I : gI} {J : gJ} : g_at 70 19 L (.int x :: S) Z I J = if ¬ x = 0 then g_at 70 25 L S Z I J else g_at 70 22 L S Z I J := gq_if e_70_19 rfl
theorem e_70_22 : g_Pg 70 22 = ga_push (.int (-2)) 24 := (congrFun pg_70 22).trans rfl
theorem q_70_22 {L : List Value} {S : List Value} {Z : gZ} {I : gI} {J : gJ} : g_at 70 22 L S Z I J = g_at 70 24 L (.int (-2) :: S) Z I J := gq_push e_70_22
theorem e_70_24 : g_Pg 70 24 = ga_iret := (congrFun pg_70 24).trans rfl
theorem q_70_24 {L : List Value} {x : Int32} {Z : gZ} {I : gI} {J : gJ} : g_at 70 24 L [.int x] Z I J = some (some (.int x), Z, I, J) := gq_iret e_70_24
theorem e_70_25 : g_Pg 70 25 = ga_iload 3 26 := (congrFun pg_70 25).trans rfl
theorem q_70_25 {l0 l1 l2 : Value} {x : Int32} {S : List Value} {Z : gZ} {I : gI} {J : gJ} : g_at 70 25 [l0, l1, l2, .int x] S Z I J = g_at 70 26 [l0, l1, l2, .int x] (.int x :: S) Z I J := gq_iload e_70_25 rfl
theorem e_70_26 : g_Pg 70 26 = ga_push (.int 1) 27 := (congrFun pg_70 26).trans rfl
theorem q_70_26 {L : List Value} {S : List Value} {Z : gZ} {I : gI} {J : gJ} : g_at 70 26 L S Z I J = g_at 70 27 L (.int 1 :: S) Z I J := gq_push e_70_26
theorem e_70_27 : g_Pg 70 27 = ga_cmp (fun x y => decide (x < y)) 36 30 := (congrFun pg_70 27).trans rfl
theorem q_70_27 {L : List Value} {x y : Int32} {S : List Value} {Z : gZ} {I : gI} {J : gJ} : g_at 70 27 L (.int y :: .int x :: S) Z I J = if x < y then g_at 70 36 L S Z I J else g_at 70 30 L S Z I J := gq_cmp e_70_27 rfl
theorem e_70_30 : g_Pg 70 30 = ga_iload 3 31 := (congrFun pg_70 30).trans rfl
theorem q_70_30 {l0 l1 l2 : Value} {x : Int32} {S : List Value} {Z : gZ} {I : gI} {J : gJ} : g_at 70 30 [l0, l1, l2, .int x] S Z I J = g_at 70 31 [l0, l1, l2, .int x] (.int x :: S) Z I J := gq_iload e_70_30 rfl
theorem e_70_31 : g_Pg 70 31 = ga_push (.int 64) 33 := (congrFun pg_70 31).trans rfl
theorem q_70_31 {L : List Value} {S : List Value} {Z : gZ} {I : gI} {J : gJ} : g_at 70 31 L S Z I J = g_at 70 33 L (.int 64 :: S) Z I J := gq_push e_70_31
theorem e_70_33 : g_Pg 70 33 = ga_cmp (fun x y => decide (x ≤ y)) 39 36 := (congrFun pg_70 33).trans rfl
theorem q_70_33 {L : List Value} {x y : Int32} {S : List Value} {Z : gZ} {I : gI} {J : gJ} : g_at 70 33 L (.int y :: .int x :: S) Z I J = if x ≤ y then g_at 70 39 L S Z I J else g_at 70 36 L S Z I J := gq_cmp e_70_33 rfl
theorem e_70_36 : g_Pg 70 36 = ga_push (.int (-3)) 38 := (congrFun pg_70 36).trans rfl
theorem q_70_36 {L : List Value} {S : List Value} {Z : gZ} {I : gI} {J : gJ} : g_at 70 36 L S Z I J = g_at 70 38 L (.int (-3) :: S) Z I J := gq_push e_70_36
theorem e_70_38 : g_Pg 70 38 = ga_iret := (congrFun pg_70 38).trans rfl
theorem q_70_38 {L : List Value} {x : Int32} {Z : gZ} {I : gI} {J : gJ} : g_at 70 38 L [.int x] Z I J = some (some (.int x), Z, I, J) := gq_iret e_70_38
theorem e_70_39 : g_Pg 70 39 = ga_aload 0 40 := (congrFun pg_70 39).trans rfl
theorem q_70_39 {l1 l2 l3 : Value} {x : Nat} {S : List Value} {Z : gZ} {I : gI} {J : gJ} : g_at 70 39 [.ref x, l1, l2, l3] S Z I J = g_at 70 40 [.ref x, l1, l2, l3] (.ref x :: S) Z I J := gq_aload e_70_39 rfl
theorem e_70_40 : g_Pg 70 40 = ga_callV 6 75 0 43 := (congrFun pg_70 40).trans rfl
theorem q_70_40 {L : List Value} {a0 : Nat} {Z : gZ} {I : gI} {J : gJ} (h : (gKd Z a0).1 = 6) : g_at 70 40 L [.ref a0] Z I J = (g_at 75 0 [.ref a0] [] Z I J).bind (fun r => g_at 70 43 L (r.1.toList ++ []) r.2.1 r.2.2.1 r.2.2.2) := gq_callV e_70_40 rfl rfl h rfl rfl rfl rfl rfl
theorem e_70_43 : g_Pg 70 43 = ga_iload 1 44 := (congrFun pg_70 43).trans rfl
theorem q_70_43 {l0 l2 l3 : Value} {x : Int32} {S : List Value} {Z : gZ} {I : gI} {J : gJ} : g_at 70 43 [l0, .int x, l2, l3] S Z I J = g_at 70 44 [l0, .int x, l2, l3] (.int x :: S) Z I J := gq_iload e_70_43 rfl
theorem e_70_44 : g_Pg 70 44 = ga_iload 2 45 := (congrFun pg_70 44).trans rfl
theorem q_70_44 {l0 l1 l3 : Value} {x : Int32} {S : List Value} {Z : gZ} {I : gI} {J : gJ} : g_at 70 44 [l0, l1, .int x, l3] S Z I J = g_at 70 45 [l0, l1, .int x, l3] (.int x :: S) Z I J := gq_iload e_70_44 rfl
theorem e_70_45 : g_Pg 70 45 = ga_iload 3 46 := (congrFun pg_70 45).trans rfl
theorem q_70_45 {l0 l1 l2 : Value} {x : Int32} {S : List Value} {Z : gZ} {I : gI} {J : gJ} : g_at 70 45 [l0, l1, l2, .int x] S Z I J = g_at 70 46 [l0, l1, l2, .int x] (.int x :: S) Z I J := gq_iload e_70_45 rfl
theorem e_70_46 : g_Pg 70 46 = ga_callV 1 14 3 49 := (congrFun pg_70 46).trans rfl
theorem q_70_46 {L : List Value} {a0 : Int32} {a1 : Int32} {a2 : Int32} {a3 : Nat} {Z : gZ} {I : gI} {J : gJ} (h : (gKd Z a3).1 = 1) : g_at 70 46 L [.int a0, .int a1, .int a2, .ref a3] Z I J = (g_at 14 0 [.ref a3, .int a2, .int a1, .int a0, .null, .null] [] Z I J).bind (fun r => g_at 70 49 L (r.1.toList ++ []) r.2.1 r.2.2.1 r.2.2.2) := gq_callV e_70_46 rfl rfl h rfl rfl rfl rfl rfl
theorem e_70_49 : g_Pg 70 49 = ga_iret := (congrFun pg_70 49).trans rfl
theorem q_70_49 {L : List Value} {x : Int32} {Z : gZ} {I : gI} {J : gJ} : g_at 70 49 L [.int x] Z I J = some (some (.int x), Z, I, J) := gq_iret e_70_49
theorem e_71_0 : g_Pg 71 0 = ga_aload 0 1 := (congrFun pg_71 0).trans rfl
theorem q_71_0 {l1 l2 l3 : Value} {x : Nat} {S : List Value} {Z : gZ} {I : gI} {J : gJ} : g_at 71 0 [.ref x, l1, l2, l3] S Z I J = g_at 71 1 [.ref x, l1, l2, l3] (.ref x :: S) Z I J := gq_aload e_71_0 rfl
theorem e_71_1 : g_Pg 71 1 = ga_getR 6 1 4 := (congrFun pg_71 1).trans rfl
theorem q_71_1 {L : List Value} {a : Nat} {S : List Value} {Z : gZ} {I : gI} {J : gJ} (h : (gKd Z a).1 = 6) (h1 : gRs Z a 1 = true) : g_at 71 1 L (.ref a :: S) Z I J = g_at 71 4 L (.ref (gRq Z a 1) :: S) Z I J := gq_getR e_71_1 h h1
theorem e_71_4 : g_Pg 71 4 = ga_iload 1 5 := (congrFun pg_71 4).trans rfl
theorem q_71_4 {l0 l2 l3 : Value} {x : Int32} {S : List Value} {Z : gZ} {I : gI} {J : gJ} : g_at 71 4 [l0, .int x, l2, l3] S Z I J = g_at 71 5 [l0, .int x, l2, l3] (.int x :: S) Z I J := gq_iload e_71_4 rfl
theorem e_71_5 : g_Pg 71 5 = ga_callV 0 3 1 8 := (congrFun pg_71 5).trans rfl
theorem q_71_5 {L : List Value} {a0 : Int32} {a1 : Nat} {Z : gZ} {I : gI} {J : gJ} (h : (gKd Z a1).1 = 0) : g_at 71 5 L [.int a0, .ref a1] Z I J = (g_at 3 0 [.ref a1, .int a0] [] Z I J).bind (fun r => g_at 71 8 L (r.1.toList ++ []) r.2.1 r.2.2.1 r.2.2.2) := gq_callV e_71_5 rfl rfl h rfl rfl rfl rfl rfl
theorem e_71_8 : g_Pg 71 8 = ga_if (fun x => decide (x = 0)) 33 11 := (congrFun pg_71 8).trans rfl
theorem q_71_8 {L : List Value} {x : Int32} {S : List Value} {Z : gZ} {I : gI} {J : gJ} : g_at 71 8 L (.int x :: S) Z I J = if x = 0 then g_at 71 33 L S Z I J else g_at 71 11 L S Z I J := gq_if e_71_8 rfl
theorem e_71_11 : g_Pg 71 11 = ga_aload 0 12 := (congrFun pg_71 11).trans rfl
theorem q_71_11 {l1 l2 l3 : Value} {x : Nat} {S : List Value} {Z : gZ} {I : gI} {J : gJ} : g_at 71 11 [.ref x, l1, l2, l3] S Z I J = g_at 71 12 [.ref x, l1, l2, l3] (.ref x :: S) Z I J := gq_aload e_71_11 rfl
theorem e_71_12 : g_Pg 71 12 = ga_getR 6 1 15 := (congrFun pg_71 12).trans rfl
theorem q_71_12 {L : List Value} {a : Nat} {S : List Value} {Z : gZ} {I : gI} {J : gJ} (h : (gKd Z a).1 = 6) (h1 : gRs Z a 1 = true) : g_at 71 12 L (.ref a :: S) Z I J = g_at 71 15 L (.ref (gRq Z a 1) :: S) Z I J := gq_getR e_71_12 h h1
theorem e_71_15 : g_Pg 71 15 = ga_iload 2 16 := (congrFun pg_71 15).trans rfl
theorem q_71_15 {l0 l1 l3 : Value} {x : Int32} {S : List Value} {Z : gZ} {I : gI} {J : gJ} : g_at 71 15 [l0, l1, .int x, l3] S Z I J = g_at 71 16 [l0, l1, .int x, l3] (.int x :: S) Z I J := gq_iload e_71_15 rfl
theorem e_71_16 : g_Pg 71 16 = ga_callV 0 3 1 19 := (congrFun pg_71 16).trans rfl
theorem q_71_16 {L : List Value} {a0 : Int32} {a1 : Nat} {Z : gZ} {I : gI} {J : gJ} (h : (gKd Z a1).1 = 0) : g_at 71 16 L [.int a0, .ref a1] Z I J = (g_at 3 0 [.ref a1, .int a0] [] Z I J).bind (fun r => g_at 71 19 L (r.1.toList ++ []) r.2.1 r.2.2.1 r.2.2.2) := gq_callV e_71_16 rfl rfl h rfl rfl rfl rfl rfl
theorem e_71_19 : g_Pg 71 19 = ga_if (fun x => decide (x = 0)) 33 22 := (congrFun pg_71 19).trans rfl
theorem q_71_19 {L : List Value} {x : Int32} {S : List Value} {Z : gZ} {I : gI} {J : gJ} : g_at 71 19 L (.int x :: S) Z I J = if x = 0 then g_at 71 33 L S Z I J else g_at 71 22 L S Z I J := gq_if e_71_19 rfl
theorem e_71_22 : g_Pg 71 22 = ga_aload 0 23 := (congrFun pg_71 22).trans rfl
theorem q_71_22 {l1 l2 l3 : Value} {x : Nat} {S : List Value} {Z : gZ} {I : gI} {J : gJ} : g_at 71 22 [.ref x, l1, l2, l3] S Z I J = g_at 71 23 [.ref x, l1, l2, l3] (.ref x :: S) Z I J := gq_aload e_71_22 rfl
theorem e_71_23 : g_Pg 71 23 = ga_getR 6 1 26 := (congrFun pg_71 23).trans rfl
theorem q_71_23 {L : List Value} {a : Nat} {S : List Value} {Z : gZ} {I : gI} {J : gJ} (h : (gKd Z a).1 = 6) (h1 : gRs Z a 1 = true) : g_at 71 23 L (.ref a :: S) Z I J = g_at 71 26 L (.ref (gRq Z a 1) :: S) Z I J := gq_getR e_71_23 h h1
theorem e_71_26 : g_Pg 71 26 = ga_iload 3 27 := (congrFun pg_71 26).trans rfl
theorem q_71_26 {l0 l1 l2 : Value} {x : Int32} {S : List Value} {Z : gZ} {I : gI} {J : gJ} : g_at 71 26 [l0, l1, l2, .int x] S Z I J = g_at 71 27 [l0, l1, l2, .int x] (.int x :: S) Z I J := gq_iload e_71_26 rfl
theorem e_71_27 : g_Pg 71 27 = ga_callV 0 3 1 30 := (congrFun pg_71 27).trans rfl
theorem q_71_27 {L : List Value} {a0 : Int32} {a1 : Nat} {Z : gZ} {I : gI} {J : gJ} (h : (gKd Z a1).1 = 0) : g_at 71 27 L [.int a0, .ref a1] Z I J = (g_at 3 0 [.ref a1, .int a0] [] Z I J).bind (fun r => g_at 71 30 L (r.1.toList ++ []) r.2.1 r.2.2.1 r.2.2.2) := gq_callV e_71_27 rfl rfl h rfl rfl rfl rfl rfl
theorem e_71_30 : g_Pg 71 30 = ga_if (fun x => decide (¬ x = 0)) 36 33 := (congrFun pg_71 30).trans rfl
theorem q_71_30 {L : List Value} {x : Int32} {S : List Value} {Z : gZ} {I : gI} {J : gJ} : g_at 71 30 L (.int x :: S) Z I J = if ¬ x = 0 then g_at 71 36 L S Z I J else g_at 71 33 L S Z I J := gq_if e_71_30 rfl
theorem e_71_33 : g_Pg 71 33 = ga_push (.int (-2)) 35 := (congrFun pg_71 33).trans rfl
theorem q_71_33 {L : List Value} {S : List Value} {Z : gZ} {I : gI} {J : gJ} : g_at 71 33 L S Z I J = g_at 71 35 L (.int (-2) :: S) Z I J := gq_push e_71_33
theorem e_71_35 : g_Pg 71 35 = ga_iret := (congrFun pg_71 35).trans rfl
theorem q_71_35 {L : List Value} {x : Int32} {Z : gZ} {I : gI} {J : gJ} : g_at 71 35 L [.int x] Z I J = some (some (.int x), Z, I, J) := gq_iret e_71_35
theorem e_71_36 : g_Pg 71 36 = ga_aload 0 37 := (congrFun pg_71 36).trans rfl
theorem q_71_36 {l1 l2 l3 : Value} {x : Nat} {S : List Value} {Z : gZ} {I : gI} {J : gJ} : g_at 71 36 [.ref x, l1, l2, l3] S Z I J = g_at 71 37 [.ref x, l1, l2, l3] (.ref x :: S) Z I J := gq_aload e_71_36 rfl
theorem e_71_37 : g_Pg 71 37 = ga_callV 6 75 0 40 := (congrFun pg_71 37).trans rfl
theorem q_71_37 {L : List Value} {a0 : Nat} {Z : gZ} {I : gI} {J : gJ} (h : (gKd Z a0).1 = 6) : g_at 71 37 L [.ref a0] Z I J = (g_at 75 0 [.ref a0] [] Z I J).bind (fun r => g_at 71 40 L (r.1.toList ++ []) r.2.1 r.2.2.1 r.2.2.2) := gq_callV e_71_37 rfl rfl h rfl rfl rfl rfl rfl
theorem e_71_40 : g_Pg 71 40 = ga_iload 1 41 := (congrFun pg_71 40).trans rfl
theorem q_71_40 {l0 l2 l3 : Value} {x : Int32} {S : List Value} {Z : gZ} {I : gI} {J : gJ} : g_at 71 40 [l0, .int x, l2, l3] S Z I J = g_at 71 41 [l0, .int x, l2, l3] (.int x :: S) Z I J := gq_iload e_71_40 rfl
theorem e_71_41 : g_Pg 71 41 = ga_iload 2 42 := (congrFun pg_71 41).trans rfl
theorem q_71_41 {l0 l1 l3 : Value} {x : Int32} {S : List Value} {Z : gZ} {I : gI} {J : gJ} : g_at 71 41 [l0, l1, .int x, l3] S Z I J = g_at 71 42 [l0, l1, .int x, l3] (.int x :: S) Z I J := gq_iload e_71_41 rfl
theorem e_71_42 : g_Pg 71 42 = ga_iload 3 43 := (congrFun pg_71 42).trans rfl
theorem q_71_42 {l0 l1 l2 : Value} {x : Int32} {S : List Value} {Z : gZ} {I : gI} {J : gJ} : g_at 71 42 [l0, l1, l2, .int x] S Z I J = g_at 71 43 [l0, l1, l2, .int x] (.int x :: S) Z I J := gq_iload e_71_42 rfl
theorem e_71_43 : g_Pg 71 43 = ga_callV 1 16 3 46 := (congrFun pg_71 43).trans rfl
theorem q_71_43 {L : List Value} {a0 : Int32} {a1 : Int32} {a2 : Int32} {a3 : Nat} {Z : gZ} {I : gI} {J : gJ} (h : (gKd Z a3).1 = 1) : g_at 71 43 L [.int a0, .int a1, .int a2, .ref a3] Z I J = (g_at 16 0 [.ref a3, .int a2, .int a1, .int a0, .null, .null] [] Z I J).bind (fun r => g_at 71 46 L (r.1.toList ++ []) r.2.1 r.2.2.1 r.2.2.2) := gq_callV e_71_43 rfl rfl h rfl rfl rfl rfl rfl
theorem e_71_46 : g_Pg 71 46 = ga_iret := (congrFun pg_71 46).trans rfl
theorem q_71_46 {L : List Value} {x : Int32} {Z : gZ} {I : gI} {J : gJ} : g_at 71 46 L [.int x] Z I J = some (some (.int x), Z, I, J) := gq_iret e_71_46
theorem e_72_0 : g_Pg 72 0 = ga_aload 0 1 := (congrFun pg_72 0).trans rfl
theorem q_72_0 {l1 l2 l3 l4 l5 : Value} {x : Nat} {S : List Value} {Z : gZ} {I : gI} {J : gJ} : g_at 72 0 [.ref x, l1, l2, l3, l4, l5] S Z I J = g_at 72 1 [.ref x, l1, l2, l3, l4, l5] (.ref x :: S) Z I J := gq_aload e_72_0 rfl
theorem e_72_1 : g_Pg 72 1 = ga_getR 6 1 4 := (congrFun pg_72 1).trans rfl
theorem q_72_1 {L : List Value} {a : Nat} {S : List Value} {Z : gZ} {I : gI} {J : gJ} (h : (gKd Z a).1 = 6) (h1 : gRs Z a 1 = true) : g_at 72 1 L (.ref a :: S) Z I J = g_at 72 4 L (.ref (gRq Z a 1) :: S) Z I J := gq_getR e_72_1 h h1
theorem e_72_4 : g_Pg 72 4 = ga_iload 1 5 := (congrFun pg_72 4).trans rfl
theorem q_72_4 {l0 l2 l3 l4 l5 : Value} {x : Int32} {S : List Value} {Z : gZ} {I : gI} {J : gJ} : g_at 72 4 [l0, .int x, l2, l3, l4, l5] S Z I J = g_at 72 5 [l0, .int x, l2, l3, l4, l5] (.int x :: S) Z I J := gq_iload e_72_4 rfl
theorem e_72_5 : g_Pg 72 5 = ga_callV 0 3 1 8 := (congrFun pg_72 5).trans rfl
theorem q_72_5 {L : List Value} {a0 : Int32} {a1 : Nat} {Z : gZ} {I : gI} {J : gJ} (h : (gKd Z a1).1 = 0) : g_at 72 5 L [.int a0, .ref a1] Z I J = (g_at 3 0 [.ref a1, .int a0] [] Z I J).bind (fun r => g_at 72 8 L (r.1.toList ++ []) r.2.1 r.2.2.1 r.2.2.2) := gq_callV e_72_5 rfl rfl h rfl rfl rfl rfl rfl
theorem e_72_8 : g_Pg 72 8 = ga_if (fun x => decide (x = 0)) 33 11 := (congrFun pg_72 8).trans rfl
theorem q_72_8 {L : List Value} {x : Int32} {S : List Value} {Z : gZ} {I : gI} {J : gJ} : g_at 72 8 L (.int x :: S) Z I J = if x = 0 then g_at 72 33 L S Z I J else g_at 72 11 L S Z I J := gq_if e_72_8 rfl
theorem e_72_11 : g_Pg 72 11 = ga_aload 0 12 := (congrFun pg_72 11).trans rfl
theorem q_72_11 {l1 l2 l3 l4 l5 : Value} {x : Nat} {S : List Value} {Z : gZ} {I : gI} {J : gJ} : g_at 72 11 [.ref x, l1, l2, l3, l4, l5] S Z I J = g_at 72 12 [.ref x, l1, l2, l3, l4, l5] (.ref x :: S) Z I J := gq_aload e_72_11 rfl
theorem e_72_12 : g_Pg 72 12 = ga_getR 6 1 15 := (congrFun pg_72 12).trans rfl
theorem q_72_12 {L : List Value} {a : Nat} {S : List Value} {Z : gZ} {I : gI} {J : gJ} (h : (gKd Z a).1 = 6) (h1 : gRs Z a 1 = true) : g_at 72 12 L (.ref a :: S) Z I J = g_at 72 15 L (.ref (gRq Z a 1) :: S) Z I J := gq_getR e_72_12 h h1
theorem e_72_15 : g_Pg 72 15 = ga_iload 2 16 := (congrFun pg_72 15).trans rfl
theorem q_72_15 {l0 l1 l3 l4 l5 : Value} {x : Int32} {S : List Value} {Z : gZ} {I : gI} {J : gJ} : g_at 72 15 [l0, l1, .int x, l3, l4, l5] S Z I J = g_at 72 16 [l0, l1, .int x, l3, l4, l5] (.int x :: S) Z I J := gq_iload e_72_15 rfl
theorem e_72_16 : g_Pg 72 16 = ga_callV 0 3 1 19 := (congrFun pg_72 16).trans rfl
theorem q_72_16 {L : List Value} {a0 : Int32} {a1 : Nat} {Z : gZ} {I : gI} {J : gJ} (h : (gKd Z a1).1 = 0) : g_at 72 16 L [.int a0, .ref a1] Z I J = (g_at 3 0 [.ref a1, .int a0] [] Z I J).bind (fun r => g_at 72 19 L (r.1.toList ++ []) r.2.1 r.2.2.1 r.2.2.2) := gq_callV e_72_16 rfl rfl h rfl rfl rfl rfl rfl
theorem e_72_19 : g_Pg 72 19 = ga_if (fun x => decide (x = 0)) 33 22 := (congrFun pg_72 19).trans rfl
theorem q_72_19 {L : List Value} {x : Int32} {S : List Value} {Z : gZ} {I : gI} {J : gJ} : g_at 72 19 L (.int x :: S) Z I J = if x = 0 then g_at 72 33 L S Z I J else g_at 72 22 L S Z I J := gq_if e_72_19 rfl
theorem e_72_22 : g_Pg 72 22 = ga_aload 0 23 := (congrFun pg_72 22).trans rfl
theorem q_72_22 {l1 l2 l3 l4 l5 : Value} {x : Nat} {S : List Value} {Z : gZ} {I : gI} {J : gJ} : g_at 72 22 [.ref x, l1, l2, l3, l4, l5] S Z I J = g_at 72 23 [.ref x, l1, l2, l3, l4, l5] (.ref x :: S) Z I J := gq_aload e_72_22 rfl
theorem e_72_23 : g_Pg 72 23 = ga_getR 6 1 26 := (congrFun pg_72 23).trans rfl
theorem q_72_23 {L : List Value} {a : Nat} {S : List Value} {Z : gZ} {I : gI} {J : gJ} (h : (gKd Z a).1 = 6) (h1 : gRs Z a 1 = true) : g_at 72 23 L (.ref a :: S) Z I J = g_at 72 26 L (.ref (gRq Z a 1) :: S) Z I J := gq_getR e_72_23 h h1
theorem e_72_26 : g_Pg 72 26 = ga_iload 3 27 := (congrFun pg_72 26).trans rfl
theorem q_72_26 {l0 l1 l2 l4 l5 : Value} {x : Int32} {S : List Value} {Z : gZ} {I : gI} {J : gJ} : g_at 72 26 [l0, l1, l2, .int x, l4, l5] S Z I J = g_at 72 27 [l0, l1, l2, .int x, l4, l5] (.int x :: S) Z I J := gq_iload e_72_26 rfl
theorem e_72_27 : g_Pg 72 27 = ga_callV 0 3 1 30 := (congrFun pg_72 27).trans rfl
theorem q_72_27 {L : List Value} {a0 : Int32} {a1 : Nat} {Z : gZ} {I : gI} {J : gJ} (h : (gKd Z a1).1 = 0) : g_at 72 27 L [.int a0, .ref a1] Z I J = (g_at 3 0 [.ref a1, .int a0] [] Z I J).bind (fun r => g_at 72 30 L (r.1.toList ++ []) r.2.1 r.2.2.1 r.2.2.2) := gq_callV e_72_27 rfl rfl h rfl rfl rfl rfl rfl
theorem e_72_30 : g_Pg 72 30 = ga_if (fun x => decide (¬ x = 0)) 36 33 := (congrFun pg_72 30).trans rfl
theorem q_72_30 {L : List Value} {x : Int32} {S : List Value} {Z : gZ} {I : gI} {J : gJ} : g_at 72 30 L (.int x :: S) Z I J = if ¬ x = 0 then g_at 72 36 L S Z I J else g_at 72 33 L S Z I J := gq_if e_72_30 rfl
theorem e_72_33 : g_Pg 72 33 = ga_push (.int (-2)) 35 := (congrFun pg_72 33).trans rfl
theorem q_72_33 {L : List Value} {S : List Value} {Z : gZ} {I : gI} {J : gJ} : g_at 72 33 L S Z I J = g_at 72 35 L (.int (-2) :: S) Z I J := gq_push e_72_33
theorem e_72_35 : g_Pg 72 35 = ga_iret := (congrFun pg_72 35).trans rfl
theorem q_72_35 {L : List Value} {x : Int32} {Z : gZ} {I : gI} {J : gJ} : g_at 72 35 L [.int x] Z I J = some (some (.int x), Z, I, J) := gq_iret e_72_35
theorem e_72_36 : g_Pg 72 36 = ga_iload 4 38 := (congrFun pg_72 36).trans rfl
theorem q_72_36 {l0 l1 l2 l3 l5 : Value} {x : Int32} {S : List Value} {Z : gZ} {I : gI} {J : gJ} : g_at 72 36 [l0, l1, l2, l3, .int x, l5] S Z I J = g_at 72 38 [l0, l1, l2, l3, .int x, l5] (.int x :: S) Z I J := gq_iload e_72_36 rfl
theorem e_72_38 : g_Pg 72 38 = ga_if (fun x => decide (x < 0)) 47 41 := (congrFun pg_72 38).trans rfl
theorem q_72_38 {L : List Value} {x : Int32} {S : List Value} {Z : gZ} {I : gI} {J : gJ} : g_at 72 38 L (.int x :: S) Z I J = if x < 0 then g_at 72 47 L S Z I J else g_at 72 41 L S Z I J := gq_if e_72_38 rfl
theorem e_72_41 : g_Pg 72 41 = ga_iload 4 43 := (congrFun pg_72 41).trans rfl
theorem q_72_41 {l0 l1 l2 l3 l5 : Value} {x : Int32} {S : List Value} {Z : gZ} {I : gI} {J : gJ} : g_at 72 41 [l0, l1, l2, l3, .int x, l5] S Z I J = g_at 72 43 [l0, l1, l2, l3, .int x, l5] (.int x :: S) Z I J := gq_iload e_72_41 rfl
theorem e_72_43 : g_Pg 72 43 = ga_push (.int 2) 44 := (congrFun pg_72 43).trans rfl
theorem q_72_43 {L : List Value} {S : List Value} {Z : gZ} {I : gI} {J : gJ} : g_at 72 43 L S Z I J = g_at 72 44 L (.int 2 :: S) Z I J := gq_push e_72_43
theorem e_72_44 : g_Pg 72 44 = ga_cmp (fun x y => decide (x ≤ y)) 50 47 := (congrFun pg_72 44).trans rfl
theorem q_72_44 {L : List Value} {x y : Int32} {S : List Value} {Z : gZ} {I : gI} {J : gJ} : g_at 72 44 L (.int y :: .int x :: S) Z I J = if x ≤ y then g_at 72 50 L S Z I J else g_at 72 47 L S Z I J := gq_cmp e_72_44 rfl
theorem e_72_47 : g_Pg 72 47 = ga_push (.int (-3)) 49 := (congrFun pg_72 47).trans rfl
theorem q_72_47 {L : List Value} {S : List Value} {Z : gZ} {I : gI} {J : gJ} : g_at 72 47 L S Z I J = g_at 72 49 L (.int (-3) :: S) Z I J := gq_push e_72_47
theorem e_72_49 : g_Pg 72 49 = ga_iret := (congrFun pg_72 49).trans rfl
theorem q_72_49 {L : List Value} {x : Int32} {Z : gZ} {I : gI} {J : gJ} : g_at 72 49 L [.int x] Z I J = some (some (.int x), Z, I, J) := gq_iret e_72_49
theorem e_72_50 : g_Pg 72 50 = ga_aload 0 51 := (congrFun pg_72 50).trans rfl
theorem q_72_50 {l1 l2 l3 l4 l5 : Value} {x : Nat} {S : List Value} {Z : gZ} {I : gI} {J : gJ} : g_at 72 50 [.ref x, l1, l2, l3, l4, l5] S Z I J = g_at 72 51 [.ref x, l1, l2, l3, l4, l5] (.ref x :: S) Z I J := gq_aload e_72_50 rfl
theorem e_72_51 : g_Pg 72 51 = ga_callV 6 75 0 54 := (congrFun pg_72 51).trans rfl
theorem q_72_51 {L : List Value} {a0 : Nat} {Z : gZ} {I : gI} {J : gJ} (h : (gKd Z a0).1 = 6) : g_at 72 51 L [.ref a0] Z I J = (g_at 75 0 [.ref a0] [] Z I J).bind (fun r => g_at 72 54 L (r.1.toList ++ []) r.2.1 r.2.2.1 r.2.2.2) := gq_callV e_72_51 rfl rfl h rfl rfl rfl rfl rfl
theorem e_72_54 : g_Pg 72 54 = ga_astore 5 56 := (congrFun pg_72 54).trans rfl
theorem q_72_54 {l0 l1 l2 l3 l4 l5 : Value} {x : Nat} {S : List Value} {Z : gZ} {I : gI} {J : gJ} (h : gN1 l4 = true) : g_at 72 54 [l0, l1, l2, l3, l4, l5] (.ref x :: S) Z I J = g_at 72 56 [l0, l1, l2, l3, l4, .ref x] S Z I J := gq_astore e_72_54 h rfl rfl
theorem e_72_56 : g_Pg 72 56 = ga_aload 5 58 := (congrFun pg_72 56).trans rfl
theorem q_72_56 {l0 l1 l2 l3 l4 : Value} {x : Nat} {S : List Value} {Z : gZ} {I : gI} {J : gJ} : g_at 72 56 [l0, l1, l2, l3, l4, .ref x] S Z I J = g_at 72 58 [l0, l1, l2, l3, l4, .ref x] (.ref x :: S) Z I J := gq_aload e_72_56 rfl
theorem e_72_58 : g_Pg 72 58 = ga_iload 1 59 := (congrFun pg_72 58).trans rfl
theorem q_72_58 {l0 l2 l3 l4 l5 : Value} {x : Int32} {S : List Value} {Z : gZ} {I : gI} {J : gJ} : g_at 72 58 [l0, .int x, l2, l3, l4, l5] S Z I J = g_at 72 59 [l0, .int x, l2, l3, l4, l5] (.int x :: S) Z I J := gq_iload e_72_58 rfl
theorem e_72_59 : g_Pg 72 59 = ga_iload 2 60 := (congrFun pg_72 59).trans rfl
theorem q_72_59 {l0 l1 l3 l4 l5 : Value} {x : Int32} {S : List Value} {Z : gZ} {I : gI} {J : gJ} : g_at 72 59 [l0, l1, .int x, l3, l4, l5] S Z I J = g_at 72 60 [l0, l1, .int x, l3, l4, l5] (.int x :: S) Z I J := gq_iload e_72_59 rfl
theorem e_72_60 : g_Pg 72 60 = ga_iload 3 61 := (congrFun pg_72 60).trans rfl
theorem q_72_60 {l0 l1 l2 l4 l5 : Value} {x : Int32} {S : List Value} {Z : gZ} {I : gI} {J : gJ} : g_at 72 60 [l0, l1, l2, .int x, l4, l5] S Z I J = g_at 72 61 [l0, l1, l2, .int x, l4, l5] (.int x :: S) Z I J := gq_iload e_72_60 rfl
theorem e_72_61 : g_Pg 72 61 = ga_callV 1 18 3 64 := (congrFun pg_72 61).trans rfl
theorem q_72_61 {L : List Value} {a0 : Int32} {a1 : Int32} {a2 : Int32} {a3 : Nat} {Z : gZ} {I : gI} {J : gJ} (h : (gKd Z a3).1 = 1) : g_at 72 61 L [.int a0, .int a1, .int a2, .ref a3] Z I J = (g_at 18 0 [.ref a3, .int a2, .int a1, .int a0, .null, .null, .null, .null] [] Z I J).bind (fun r => g_at 72 64 L (r.1.toList ++ []) r.2.1 r.2.2.1 r.2.2.2) := gq_callV e_72_61 rfl rfl h rfl rfl rfl rfl rfl
theorem e_72_64 : g_Pg 72 64 = ga_iload 4 66 := (congrFun pg_72 64).trans rfl
theorem q_72_64 {l0 l1 l2 l3 l5 : Value} {x : Int32} {S : List Value} {Z : gZ} {I : gI} {J : gJ} : g_at 72 64 [l0, l1, l2, l3, .int x, l5] S Z I J = g_at 72 66 [l0, l1, l2, l3, .int x, l5] (.int x :: S) Z I J := gq_iload e_72_64 rfl
theorem e_72_66 : g_Pg 72 66 = ga_if (fun x => decide (¬ x = 0)) 77 69 := (congrFun pg_72 66).trans rfl
theorem q_72_66 {L : List Value} {x : Int32} {S : List Value} {Z : gZ} {I : gI} {J : gJ} : g_at 72 66 L (.int x :: S) Z I J = if ¬ x = 0 then g_at 72 77 L S Z I J else g_at 72 69 L S Z I J := gq_if e_72_66 rfl
theorem e_72_69 : g_Pg 72 69 = ga_aload 5 71 := (congrFun pg_72 69).trans rfl
theorem q_72_69 {l0 l1 l2 l3 l4 : Value} {x : Nat} {S : List Value} {Z : gZ} {I : gI} {J : gJ} : g_at 72 69 [l0, l1, l2, l3, l4, .ref x] S Z I J = g_at 72 71 [l0, l1, l2, l3, l4, .ref x] (.ref x :: S) Z I J := gq_aload e_72_69 rfl
theorem e_72_71 : g_Pg 72 71 = ga_getI 1 5 74 := (congrFun pg_72 71).trans rfl
theorem q_72_71 {L : List Value} {a : Nat} {S : List Value} {Z : gZ} {I : gI} {J : gJ} (h : (gKd Z a).1 = 1) : g_at 72 71 L (.ref a :: S) Z I J = g_at 72 74 L (.int (I a 5) :: S) Z I J := gq_getI e_72_71 h
theorem e_72_74 : g_Pg 72 74 = ga_goto 96 := (congrFun pg_72 74).trans rfl
theorem q_72_74 {L : List Value} {S : List Value} {Z : gZ} {I : gI} {J : gJ} : g_at 72 74 L S Z I J = g_at 72 96 L S Z I J := gq_goto e_72_74
theorem e_72_77 : g_Pg 72 77 = ga_iload 4 79 := (congrFun pg_72 77).trans rfl
theorem q_72_77 {l0 l1 l2 l3 l5 : Value} {x : Int32} {S : List Value} {Z : gZ} {I : gI} {J : gJ} : g_at 72 77 [l0, l1, l2, l3, .int x, l5] S Z I J = g_at 72 79 [l0, l1, l2, l3, .int x, l5] (.int x :: S) Z I J := gq_iload e_72_77 rfl
theorem e_72_79 : g_Pg 72 79 = ga_push (.int 1) 80 := (congrFun pg_72 79).trans rfl
theorem q_72_79 {L : List Value} {S : List Value} {Z : gZ} {I : gI} {J : gJ} : g_at 72 79 L S Z I J = g_at 72 80 L (.int 1 :: S) Z I J := gq_push e_72_79
theorem e_72_80 : g_Pg 72 80 = ga_cmp (fun x y => decide (¬ x = y)) 91 83 := (congrFun pg_72 80).trans rfl
theorem q_72_80 {L : List Value} {x y : Int32} {S : List Value} {Z : gZ} {I : gI} {J : gJ} : g_at 72 80 L (.int y :: .int x :: S) Z I J = if ¬ x = y then g_at 72 91 L S Z I J else g_at 72 83 L S Z I J := gq_cmp e_72_80 rfl
theorem e_72_83 : g_Pg 72 83 = ga_aload 5 85 := (congrFun pg_72 83).trans rfl
theorem q_72_83 {l0 l1 l2 l3 l4 : Value} {x : Nat} {S : List Value} {Z : gZ} {I : gI} {J : gJ} : g_at 72 83 [l0, l1, l2, l3, l4, .ref x] S Z I J = g_at 72 85 [l0, l1, l2, l3, l4, .ref x] (.ref x :: S) Z I J := gq_aload e_72_83 rfl
theorem e_72_85 : g_Pg 72 85 = ga_getI 1 6 88 := (congrFun pg_72 85).trans rfl
theorem q_72_85 {L : List Value} {a : Nat} {S : List Value} {Z : gZ} {I : gI} {J : gJ} (h : (gKd Z a).1 = 1) : g_at 72 85 L (.ref a :: S) Z I J = g_at 72 88 L (.int (I a 6) :: S) Z I J := gq_getI e_72_85 h
theorem e_72_88 : g_Pg 72 88 = ga_goto 96 := (congrFun pg_72 88).trans rfl
theorem q_72_88 {L : List Value} {S : List Value} {Z : gZ} {I : gI} {J : gJ} : g_at 72 88 L S Z I J = g_at 72 96 L S Z I J := gq_goto e_72_88
theorem e_72_91 : g_Pg 72 91 = ga_aload 5 93 := (congrFun pg_72 91).trans rfl
theorem q_72_91 {l0 l1 l2 l3 l4 : Value} {x : Nat} {S : List Value} {Z : gZ} {I : gI} {J : gJ} : g_at 72 91 [l0, l1, l2, l3, l4, .ref x] S Z I J = g_at 72 93 [l0, l1, l2, l3, l4, .ref x] (.ref x :: S) Z I J := gq_aload e_72_91 rfl
theorem e_72_93 : g_Pg 72 93 = ga_getI 1 7 96 := (congrFun pg_72 93).trans rfl
theorem q_72_93 {L : List Value} {a : Nat} {S : List Value} {Z : gZ} {I : gI} {J : gJ} (h : (gKd Z a).1 = 1) : g_at 72 93 L (.ref a :: S) Z I J = g_at 72 96 L (.int (I a 7) :: S) Z I J := gq_getI e_72_93 h
theorem e_72_96 : g_Pg 72 96 = ga_iret := (congrFun pg_72 96).trans rfl
theorem q_72_96 {L : List Value} {x : Int32} {Z : gZ} {I : gI} {J : gJ} : g_at 72 96 L [.int x] Z I J = some (some (.int x), Z, I, J) := gq_iret e_72_96
theorem e_73_0 : g_Pg 73 0 = ga_aload 0 1 := (congrFun pg_73 0).trans rfl
theorem q_73_0 {l1 l2 l3 : Value} {x : Nat} {S : List Value} {Z : gZ} {I : gI} {J : gJ} : g_at 73 0 [.ref x, l1, l2, l3] S Z I J = g_at 73 1 [.ref x, l1, l2, l3] (.ref x :: S) Z I J := gq_aload e_73_0 rfl
theorem e_73_1 : g_Pg 73 1 = ga_getR 6 1 4 := (congrFun pg_73 1).trans rfl
theorem q_73_1 {L : List Value} {a : Nat} {S : List Value} {Z : gZ} {I : gI} {J : gJ} (h : (gKd Z a).1 = 6) (h1 : gRs Z a 1 = true) : g_at 73 1 L (.ref a :: S) Z I J = g_at 73 4 L (.ref (gRq Z a 1) :: S) Z I J := gq_getR e_73_1 h h1
theorem e_73_4 : g_Pg 73 4 = ga_iload 1 5 := (congrFun pg_73 4).trans rfl
theorem q_73_4 {l0 l2 l3 : Value} {x : Int32} {S : List Value} {Z : gZ} {I : gI} {J : gJ} : g_at 73 4 [l0, .int x, l2, l3] S Z I J = g_at 73 5 [l0, .int x, l2, l3] (.int x :: S) Z I J := gq_iload e_73_4 rfl
theorem e_73_5 : g_Pg 73 5 = ga_callV 0 3 1 8 := (congrFun pg_73 5).trans rfl
theorem q_73_5 {L : List Value} {a0 : Int32} {a1 : Nat} {Z : gZ} {I : gI} {J : gJ} (h : (gKd Z a1).1 = 0) : g_at 73 5 L [.int a0, .ref a1] Z I J = (g_at 3 0 [.ref a1, .int a0] [] Z I J).bind (fun r => g_at 73 8 L (r.1.toList ++ []) r.2.1 r.2.2.1 r.2.2.2) := gq_callV e_73_5 rfl rfl h rfl rfl rfl rfl rfl
theorem e_73_8 : g_Pg 73 8 = ga_if (fun x => decide (¬ x = 0)) 14 11 := (congrFun pg_73 8).trans rfl
theorem q_73_8 {L : List Value} {x : Int32} {S : List Value} {Z : gZ} {I : gI} {J : gJ} : g_at 73 8 L (.int x :: S) Z I J = if ¬ x = 0 then g_at 73 14 L S Z I J else g_at 73 11 L S Z I J := gq_if e_73_8 rfl
theorem e_73_11 : g_Pg 73 11 = ga_push (.int (-2)) 13 := (congrFun pg_73 11).trans rfl
theorem q_73_11 {L : List Value} {S : List Value} {Z : gZ} {I : gI} {J : gJ} : g_at 73 11 L S Z I J = g_at 73 13 L (.int (-2) :: S) Z I J := gq_push e_73_11
theorem e_73_13 : g_Pg 73 13 = ga_iret := (congrFun pg_73 13).trans rfl
theorem q_73_13 {L : List Value} {x : Int32} {Z : gZ} {I : gI} {J : gJ} : g_at 73 13 L [.int x] Z I J = some (some (.int x), Z, I, J) := gq_iret e_73_13
theorem e_73_14 : g_Pg 73 14 = ga_iload 2 15 := (congrFun pg_73 14).trans rfl
theorem q_73_14 {l0 l1 l3 : Value} {x : Int32} {S : List Value} {Z : gZ} {I : gI} {J : gJ} : g_at 73 14 [l0, l1, .int x, l3] S Z I J = g_at 73 15 [l0, l1, .int x, l3] (.int x :: S) Z I J := gq_iload e_73_14 rfl
theorem e_73_15 : g_Pg 73 15 = ga_if (fun x => decide (x < 0)) 23 18 := (congrFun pg_73 15).trans rfl
theorem q_73_15 {L : List Value} {x : Int32} {S : List Value} {Z : gZ} {I : gI} {J : gJ} : g_at 73 15 L (.int x :: S) Z I J = if x < 0 then g_at 73 23 L S Z I J else g_at 73 18 L S Z I J := gq_if e_73_15 rfl
theorem e_73_18 : g_Pg 73 18 = ga_iload 2 19 := (congrFun pg_73 18).trans rfl
theorem q_73_18 {l0 l1 l3 : Value} {x : Int32} {S : List Value} {Z : gZ} {I : gI} {J : gJ} : g_at 73 18 [l0, l1, .int x, l3] S Z I J = g_at 73 19 [l0, l1, .int x, l3] (.int x :: S) Z I J := gq_iload e_73_18 rfl
theorem e_73_19 : g_Pg 73 19 = ga_push (.int 1) 20 := (congrFun pg_73 19).trans rfl
theorem q_73_19 {L : List Value} {S : List Value} {Z : gZ} {I : gI} {J : gJ} : g_at 73 19 L S Z I J = g_at 73 20 L (.int 1 :: S) Z I J := gq_push e_73_19
theorem e_73_20 : g_Pg 73 20 = ga_cmp (fun x y => decide (x ≤ y)) 26 23 := (congrFun pg_73 20).trans rfl
theorem q_73_20 {L : List Value} {x y : Int32} {S : List Value} {Z : gZ} {I : gI} {J : gJ} : g_at 73 20 L (.int y :: .int x :: S) Z I J = if x ≤ y then g_at 73 26 L S Z I J else g_at 73 23 L S Z I J := gq_cmp e_73_20 rfl
theorem e_73_23 : g_Pg 73 23 = ga_push (.int (-3)) 25 := (congrFun pg_73 23).trans rfl
theorem q_73_23 {L : List Value} {S : List Value} {Z : gZ} {I : gI} {J : gJ} : g_at 73 23 L S Z I J = g_at 73 25 L (.int (-3) :: S) Z I J := gq_push e_73_23
theorem e_73_25 : g_Pg 73 25 = ga_iret := (congrFun pg_73 25).trans rfl
theorem q_73_25 {L : List Value} {x : Int32} {Z : gZ} {I : gI} {J : gJ} : g_at 73 25 L [.int x] Z I J = some (some (.int x), Z, I, J) := gq_iret e_73_25
theorem e_73_26 : g_Pg 73 26 = ga_aload 0 27 := (congrFun pg_73 26).trans rfl
theorem q_73_26 {l1 l2 l3 : Value} {x : Nat} {S : List Value} {Z : gZ} {I : gI} {J : gJ} : g_at 73 26 [.ref x, l1, l2, l3] S Z I J = g_at 73 27 [.ref x, l1, l2, l3] (.ref x :: S) Z I J := gq_aload e_73_26 rfl
theorem e_73_27 : g_Pg 73 27 = ga_callV 6 75 0 30 := (congrFun pg_73 27).trans rfl
theorem q_73_27 {L : List Value} {a0 : Nat} {Z : gZ} {I : gI} {J : gJ} (h : (gKd Z a0).1 = 6) : g_at 73 27 L [.ref a0] Z I J = (g_at 75 0 [.ref a0] [] Z I J).bind (fun r => g_at 73 30 L (r.1.toList ++ []) r.2.1 r.2.2.1 r.2.2.2) := gq_callV e_73_27 rfl rfl h rfl rfl rfl rfl rfl
theorem e_73_30 : g_Pg 73 30 = ga_astore 3 31 := (congrFun pg_73 30).trans rfl
theorem q_73_30 {l0 l1 l2 l3 : Value} {x : Nat} {S : List Value} {Z : gZ} {I : gI} {J : gJ} (h : gN1 l2 = true) : g_at 73 30 [l0, l1, l2, l3] (.ref x :: S) Z I J = g_at 73 31 [l0, l1, l2, .ref x] S Z I J := gq_astore e_73_30 h rfl rfl
theorem e_73_31 : g_Pg 73 31 = ga_aload 3 32 := (congrFun pg_73 31).trans rfl
theorem q_73_31 {l0 l1 l2 : Value} {x : Nat} {S : List Value} {Z : gZ} {I : gI} {J : gJ} : g_at 73 31 [l0, l1, l2, .ref x] S Z I J = g_at 73 32 [l0, l1, l2, .ref x] (.ref x :: S) Z I J := gq_aload e_73_31 rfl
theorem e_73_32 : g_Pg 73 32 = ga_aload 0 33 := (congrFun pg_73 32).trans rfl
theorem q_73_32 {l1 l2 l3 : Value} {x : Nat} {S : List Value} {Z : gZ} {I : gI} {J : gJ} : g_at 73 32 [.ref x, l1, l2, l3] S Z I J = g_at 73 33 [.ref x, l1, l2, l3] (.ref x :: S) Z I J := gq_aload e_73_32 rfl
theorem e_73_33 : g_Pg 73 33 = ga_getR 6 1 36 := (congrFun pg_73 33).trans rfl
theorem q_73_33 {L : List Value} {a : Nat} {S : List Value} {Z : gZ} {I : gI} {J : gJ} (h : (gKd Z a).1 = 6) (h1 : gRs Z a 1 = true) : g_at 73 33 L (.ref a :: S) Z I J = g_at 73 36 L (.ref (gRq Z a 1) :: S) Z I J := gq_getR e_73_33 h h1
theorem e_73_36 : g_Pg 73 36 = ga_iload 1 37 := (congrFun pg_73 36).trans rfl
theorem q_73_36 {l0 l2 l3 : Value} {x : Int32} {S : List Value} {Z : gZ} {I : gI} {J : gJ} : g_at 73 36 [l0, .int x, l2, l3] S Z I J = g_at 73 37 [l0, .int x, l2, l3] (.int x :: S) Z I J := gq_iload e_73_36 rfl
theorem e_73_37 : g_Pg 73 37 = ga_callV 1 19 2 40 := (congrFun pg_73 37).trans rfl
theorem q_73_37 {L : List Value} {a0 : Int32} {a1 : Nat} {a2 : Nat} {Z : gZ} {I : gI} {J : gJ} (h : (gKd Z a2).1 = 1) : g_at 73 37 L [.int a0, .ref a1, .ref a2] Z I J = (g_at 19 0 [.ref a2, .ref a1, .int a0, .null, .null, .null] [] Z I J).bind (fun r => g_at 73 40 L (r.1.toList ++ []) r.2.1 r.2.2.1 r.2.2.2) := gq_callV e_73_37 rfl rfl h rfl rfl rfl rfl rfl
theorem e_73_40 : g_Pg 73 40 = ga_iload 2 41 := (congrFun pg_73 40).trans rfl
theorem q_73_40 {l0 l1 l3 : Value} {x : Int32} {S : List Value} {Z : gZ} {I : gI} {J : gJ} : g_at 73 40 [l0, l1, .int x, l3] S Z I J = g_at 73 41 [l0, l1, .int x, l3] (.int x :: S) Z I J := gq_iload e_73_40 rfl
theorem e_73_41 : g_Pg 73 41 = ga_if (fun x => decide (¬ x = 0)) 51 44 := (congrFun pg_73 41).trans rfl
theorem q_73_41 {L : List Value} {x : Int32} {S : List Value} {Z : gZ} {I : gI} {J : gJ} : g_at 73 41 L (.int x :: S) Z I J = if ¬ x = 0 then g_at 73 51 L S Z I J else g_at 73 44 L S Z I J := gq_if e_73_41 rfl
theorem e_73_44 : g_Pg 73 44 = ga_aload 3 45 := (congrFun pg_73 44).trans rfl
theorem q_73_44 {l0 l1 l2 : Value} {x : Nat} {S : List Value} {Z : gZ} {I : gI} {J : gJ} : g_at 73 44 [l0, l1, l2, .ref x] S Z I J = g_at 73 45 [l0, l1, l2, .ref x] (.ref x :: S) Z I J := gq_aload e_73_44 rfl
theorem e_73_45 : g_Pg 73 45 = ga_getI 1 6 48 := (congrFun pg_73 45).trans rfl
theorem q_73_45 {L : List Value} {a : Nat} {S : List Value} {Z : gZ} {I : gI} {J : gJ} (h : (gKd Z a).1 = 1) : g_at 73 45 L (.ref a :: S) Z I J = g_at 73 48 L (.int (I a 6) :: S) Z I J := gq_getI e_73_45 h
theorem e_73_48 : g_Pg 73 48 = ga_goto 55 := (congrFun pg_73 48).trans rfl
theorem q_73_48 {L : List Value} {S : List Value} {Z : gZ} {I : gI} {J : gJ} : g_at 73 48 L S Z I J = g_at 73 55 L S Z I J := gq_goto e_73_48
theorem e_73_51 : g_Pg 73 51 = ga_aload 3 52 := (congrFun pg_73 51).trans rfl
theorem q_73_51 {l0 l1 l2 : Value} {x : Nat} {S : List Value} {Z : gZ} {I : gI} {J : gJ} : g_at 73 51 [l0, l1, l2, .ref x] S Z I J = g_at 73 52 [l0, l1, l2, .ref x] (.ref x :: S) Z I J := gq_aload e_73_51 rfl
theorem e_73_52 : g_Pg 73 52 = ga_getI 1 5 55 := (congrFun pg_73 52).trans rfl
theorem q_73_52 {L : List Value} {a : Nat} {S : List Value} {Z : gZ} {I : gI} {J : gJ} (h : (gKd Z a).1 = 1) : g_at 73 52 L (.ref a :: S) Z I J = g_at 73 55 L (.int (I a 5) :: S) Z I J := gq_getI e_73_52 h
theorem e_73_55 : g_Pg 73 55 = ga_iret := (congrFun pg_73 55).trans rfl
theorem q_73_55 {L : List Value} {x : Int32} {Z : gZ} {I : gI} {J : gJ} : g_at 73 55 L [.int x] Z I J = some (some (.int x), Z, I, J) := gq_iret e_73_55
theorem e_74_0 : g_Pg 74 0 = ga_aload 0 1 := (congrFun pg_74 0).trans rfl
theorem q_74_0 {l1 l2 l3 l4 l5 l6 l7 : Value} {x : Nat} {S : List Value} {Z : gZ} {I : gI} {J : gJ} : g_at 74 0 [.ref x, l1, l2, l3, l4, l5, l6, l7] S Z I J = g_at 74 1 [.ref x, l1, l2, l3, l4, l5, l6, l7] (.ref x :: S) Z I J := gq_aload e_74_0 rfl
theorem e_74_1 : g_Pg 74 1 = ga_getR 6 1 4 := (congrFun pg_74 1).trans rfl
theorem q_74_1 {L : List Value} {a : Nat} {S : List Value} {Z : gZ} {I : gI} {J : gJ} (h : (gKd Z a).1 = 6) (h1 : gRs Z a 1 = true) : g_at 74 1 L (.ref a :: S) Z I J = g_at 74 4 L (.ref (gRq Z a 1) :: S) Z I J := gq_getR e_74_1 h h1
theorem e_74_4 : g_Pg 74 4 = ga_iload 1 5 := (congrFun pg_74 4).trans rfl
theorem q_74_4 {l0 l2 l3 l4 l5 l6 l7 : Value} {x : Int32} {S : List Value} {Z : gZ} {I : gI} {J : gJ} : g_at 74 4 [l0, .int x, l2, l3, l4, l5, l6, l7] S Z I J = g_at 74 5 [l0, .int x, l2, l3, l4, l5, l6, l7] (.int x :: S) Z I J := gq_iload e_74_4 rfl
theorem e_74_5 : g_Pg 74 5 = ga_callV 0 3 1 8 := (congrFun pg_74 5).trans rfl
theorem q_74_5 {L : List Value} {a0 : Int32} {a1 : Nat} {Z : gZ} {I : gI} {J : gJ} (h : (gKd Z a1).1 = 0) : g_at 74 5 L [.int a0, .ref a1] Z I J = (g_at 3 0 [.ref a1, .int a0] [] Z I J).bind (fun r => g_at 74 8 L (r.1.toList ++ []) r.2.1 r.2.2.1 r.2.2.2) := gq_callV e_74_5 rfl rfl h rfl rfl rfl rfl rfl
theorem e_74_8 : g_Pg 74 8 = ga_if (fun x => decide (x = 0)) 22 11 := (congrFun pg_74 8).trans rfl
theorem q_74_8 {L : List Value} {x : Int32} {S : List Value} {Z : gZ} {I : gI} {J : gJ} : g_at 74 8 L (.int x :: S) Z I J = if x = 0 then g_at 74 22 L S Z I J else g_at 74 11 L S Z I J := gq_if e_74_8 rfl
theorem e_74_11 : g_Pg 74 11 = ga_aload 0 12 := (congrFun pg_74 11).trans rfl
theorem q_74_11 {l1 l2 l3 l4 l5 l6 l7 : Value} {x : Nat} {S : List Value} {Z : gZ} {I : gI} {J : gJ} : g_at 74 11 [.ref x, l1, l2, l3, l4, l5, l6, l7] S Z I J = g_at 74 12 [.ref x, l1, l2, l3, l4, l5, l6, l7] (.ref x :: S) Z I J := gq_aload e_74_11 rfl
theorem e_74_12 : g_Pg 74 12 = ga_getR 6 1 15 := (congrFun pg_74 12).trans rfl
theorem q_74_12 {L : List Value} {a : Nat} {S : List Value} {Z : gZ} {I : gI} {J : gJ} (h : (gKd Z a).1 = 6) (h1 : gRs Z a 1 = true) : g_at 74 12 L (.ref a :: S) Z I J = g_at 74 15 L (.ref (gRq Z a 1) :: S) Z I J := gq_getR e_74_12 h h1
theorem e_74_15 : g_Pg 74 15 = ga_iload 2 16 := (congrFun pg_74 15).trans rfl
theorem q_74_15 {l0 l1 l3 l4 l5 l6 l7 : Value} {x : Int32} {S : List Value} {Z : gZ} {I : gI} {J : gJ} : g_at 74 15 [l0, l1, .int x, l3, l4, l5, l6, l7] S Z I J = g_at 74 16 [l0, l1, .int x, l3, l4, l5, l6, l7] (.int x :: S) Z I J := gq_iload e_74_15 rfl
theorem e_74_16 : g_Pg 74 16 = ga_callV 0 3 1 19 := (congrFun pg_74 16).trans rfl
theorem q_74_16 {L : List Value} {a0 : Int32} {a1 : Nat} {Z : gZ} {I : gI} {J : gJ} (h : (gKd Z a1).1 = 0) : g_at 74 16 L [.int a0, .ref a1] Z I J = (g_at 3 0 [.ref a1, .int a0] [] Z I J).bind (fun r => g_at 74 19 L (r.1.toList ++ []) r.2.1 r.2.2.1 r.2.2.2) := gq_callV e_74_16 rfl rfl h rfl rfl rfl rfl rfl
theorem e_74_19 : g_Pg 74 19 = ga_if (fun x => decide (¬ x = 0)) 25 22 := (congrFun pg_74 19).trans rfl
theorem q_74_19 {L : List Value} {x : Int32} {S : List Value} {Z : gZ} {I : gI} {J : gJ} : g_at 74 19 L (.int x :: S) Z I J = if ¬ x = 0 then g_at 74 25 L S Z I J else g_at 74 22 L S Z I J := gq_if e_74_19 rfl
theorem e_74_22 : g_Pg 74 22 = ga_push (.int (-2)) 24 := (congrFun pg_74 22).trans rfl
theorem q_74_22 {L : List Value} {S : List Value} {Z : gZ} {I : gI} {J : gJ} : g_at 74 22 L S Z I J = g_at 74 24 L (.int (-2) :: S) Z I J := gq_push e_74_22
theorem e_74_24 : g_Pg 74 24 = ga_iret := (congrFun pg_74 24).trans rfl
theorem q_74_24 {L : List Value} {x : Int32} {Z : gZ} {I : gI} {J : gJ} : g_at 74 24 L [.int x] Z I J = some (some (.int x), Z, I, J) := gq_iret e_74_24
theorem e_74_25 : g_Pg 74 25 = ga_iload 3 26 := (congrFun pg_74 25).trans rfl
theorem q_74_25 {l0 l1 l2 l4 l5 l6 l7 : Value} {x : Int32} {S : List Value} {Z : gZ} {I : gI} {J : gJ} : g_at 74 25 [l0, l1, l2, .int x, l4, l5, l6, l7] S Z I J = g_at 74 26 [l0, l1, l2, .int x, l4, l5, l6, l7] (.int x :: S) Z I J := gq_iload e_74_25 rfl
theorem e_74_26 : g_Pg 74 26 = ga_if (fun x => decide (x < 0)) 46 29 := (congrFun pg_74 26).trans rfl
theorem q_74_26 {L : List Value} {x : Int32} {S : List Value} {Z : gZ} {I : gI} {J : gJ} : g_at 74 26 L (.int x :: S) Z I J = if x < 0 then g_at 74 46 L S Z I J else g_at 74 29 L S Z I J := gq_if e_74_26 rfl
theorem e_74_29 : g_Pg 74 29 = ga_iload 3 30 := (congrFun pg_74 29).trans rfl
theorem q_74_29 {l0 l1 l2 l4 l5 l6 l7 : Value} {x : Int32} {S : List Value} {Z : gZ} {I : gI} {J : gJ} : g_at 74 29 [l0, l1, l2, .int x, l4, l5, l6, l7] S Z I J = g_at 74 30 [l0, l1, l2, .int x, l4, l5, l6, l7] (.int x :: S) Z I J := gq_iload e_74_29 rfl
theorem e_74_30 : g_Pg 74 30 = ga_push (.int 10) 32 := (congrFun pg_74 30).trans rfl
theorem q_74_30 {L : List Value} {S : List Value} {Z : gZ} {I : gI} {J : gJ} : g_at 74 30 L S Z I J = g_at 74 32 L (.int 10 :: S) Z I J := gq_push e_74_30
theorem e_74_32 : g_Pg 74 32 = ga_cmp (fun x y => decide (y < x)) 46 35 := (congrFun pg_74 32).trans rfl
theorem q_74_32 {L : List Value} {x y : Int32} {S : List Value} {Z : gZ} {I : gI} {J : gJ} : g_at 74 32 L (.int y :: .int x :: S) Z I J = if y < x then g_at 74 46 L S Z I J else g_at 74 35 L S Z I J := gq_cmp e_74_32 rfl
theorem e_74_35 : g_Pg 74 35 = ga_iload 4 37 := (congrFun pg_74 35).trans rfl
theorem q_74_35 {l0 l1 l2 l3 l5 l6 l7 : Value} {x : Int32} {S : List Value} {Z : gZ} {I : gI} {J : gJ} : g_at 74 35 [l0, l1, l2, l3, .int x, l5, l6, l7] S Z I J = g_at 74 37 [l0, l1, l2, l3, .int x, l5, l6, l7] (.int x :: S) Z I J := gq_iload e_74_35 rfl
theorem e_74_37 : g_Pg 74 37 = ga_if (fun x => decide (x < 0)) 46 40 := (congrFun pg_74 37).trans rfl
theorem q_74_37 {L : List Value} {x : Int32} {S : List Value} {Z : gZ} {I : gI} {J : gJ} : g_at 74 37 L (.int x :: S) Z I J = if x < 0 then g_at 74 46 L S Z I J else g_at 74 40 L S Z I J := gq_if e_74_37 rfl
theorem e_74_40 : g_Pg 74 40 = ga_iload 4 42 := (congrFun pg_74 40).trans rfl
theorem q_74_40 {l0 l1 l2 l3 l5 l6 l7 : Value} {x : Int32} {S : List Value} {Z : gZ} {I : gI} {J : gJ} : g_at 74 40 [l0, l1, l2, l3, .int x, l5, l6, l7] S Z I J = g_at 74 42 [l0, l1, l2, l3, .int x, l5, l6, l7] (.int x :: S) Z I J := gq_iload e_74_40 rfl
theorem e_74_42 : g_Pg 74 42 = ga_push (.int 1) 43 := (congrFun pg_74 42).trans rfl
theorem q_74_42 {L : List Value} {S : List Value} {Z : gZ} {I : gI} {J : gJ} : g_at 74 42 L S Z I J = g_at 74 43 L (.int 1 :: S) Z I J := gq_push e_74_42
theorem e_74_43 : g_Pg 74 43 = ga_cmp (fun x y => decide (x ≤ y)) 49 46 := (congrFun pg_74 43).trans rfl
theorem q_74_43 {L : List Value} {x y : Int32} {S : List Value} {Z : gZ} {I : gI} {J : gJ} : g_at 74 43 L (.int y :: .int x :: S) Z I J = if x ≤ y then g_at 74 49 L S Z I J else g_at 74 46 L S Z I J := gq_cmp e_74_43 rfl
theorem e_74_46 : g_Pg 74 46 = ga_push (.int (-3)) 48 := (congrFun pg_74 46).trans rfl
theorem q_74_46 {L : List Value} {S : List Value} {Z : gZ} {I : gI} {J : gJ} : g_at 74 46 L S Z I J = g_at 74 48 L (.int (-3) :: S) Z I J := gq_push e_74_46
theorem e_74_48 : g_Pg 74 48 = ga_iret := (congrFun pg_74 48).trans rfl
theorem q_74_48 {L : List Value} {x : Int32} {Z : gZ} {I : gI} {J : gJ} : g_at 74 48 L [.int x] Z I J = some (some (.int x), Z, I, J) := gq_iret e_74_48
theorem e_74_49 : g_Pg 74 49 = ga_aload 0 50 := (congrFun pg_74 49).trans rfl
theorem q_74_49 {l1 l2 l3 l4 l5 l6 l7 : Value} {x : Nat} {S : List Value} {Z : gZ} {I : gI} {J : gJ} : g_at 74 49 [.ref x, l1, l2, l3, l4, l5, l6, l7] S Z I J = g_at 74 50 [.ref x, l1, l2, l3, l4, l5, l6, l7] (.ref x :: S) Z I J := gq_aload e_74_49 rfl
theorem e_74_50 : g_Pg 74 50 = ga_callV 6 75 0 53 := (congrFun pg_74 50).trans rfl
theorem q_74_50 {L : List Value} {a0 : Nat} {Z : gZ} {I : gI} {J : gJ} (h : (gKd Z a0).1 = 6) : g_at 74 50 L [.ref a0] Z I J = (g_at 75 0 [.ref a0] [] Z I J).bind (fun r => g_at 74 53 L (r.1.toList ++ []) r.2.1 r.2.2.1 r.2.2.2) := gq_callV e_74_50 rfl rfl h rfl rfl rfl rfl rfl
theorem e_74_53 : g_Pg 74 53 = ga_iload 1 54 := (congrFun pg_74 53).trans rfl
theorem q_74_53 {l0 l2 l3 l4 l5 l6 l7 : Value} {x : Int32} {S : List Value} {Z : gZ} {I : gI} {J : gJ} : g_at 74 53 [l0, .int x, l2, l3, l4, l5, l6, l7] S Z I J = g_at 74 54 [l0, .int x, l2, l3, l4, l5, l6, l7] (.int x :: S) Z I J := gq_iload e_74_53 rfl
theorem e_74_54 : g_Pg 74 54 = ga_iload 2 55 := (congrFun pg_74 54).trans rfl
theorem q_74_54 {l0 l1 l3 l4 l5 l6 l7 : Value} {x : Int32} {S : List Value} {Z : gZ} {I : gI} {J : gJ} : g_at 74 54 [l0, l1, .int x, l3, l4, l5, l6, l7] S Z I J = g_at 74 55 [l0, l1, .int x, l3, l4, l5, l6, l7] (.int x :: S) Z I J := gq_iload e_74_54 rfl
theorem e_74_55 : g_Pg 74 55 = ga_callV 1 17 2 58 := (congrFun pg_74 55).trans rfl
theorem q_74_55 {L : List Value} {a0 : Int32} {a1 : Int32} {a2 : Nat} {Z : gZ} {I : gI} {J : gJ} (h : (gKd Z a2).1 = 1) : g_at 74 55 L [.int a0, .int a1, .ref a2] Z I J = (g_at 17 0 [.ref a2, .int a1, .int a0] [] Z I J).bind (fun r => g_at 74 58 L (r.1.toList ++ []) r.2.1 r.2.2.1 r.2.2.2) := gq_callV e_74_55 rfl rfl h rfl rfl rfl rfl rfl
theorem e_74_58 : g_Pg 74 58 = ga_istore 5 60 := (congrFun pg_74 58).trans rfl
theorem q_74_58 {l0 l1 l2 l3 l4 l5 l6 l7 : Value} {x : Int32} {S : List Value} {Z : gZ} {I : gI} {J : gJ} (h : gN1 l4 = true) : g_at 74 58 [l0, l1, l2, l3, l4, l5, l6, l7] (.int x :: S) Z I J = g_at 74 60 [l0, l1, l2, l3, l4, .int x, l6, l7] S Z I J := gq_istore e_74_58 h rfl rfl
theorem e_74_60 : g_Pg 74 60 = ga_iload 5 62 := (congrFun pg_74 60).trans rfl
theorem q_74_60 {l0 l1 l2 l3 l4 l6 l7 : Value} {x : Int32} {S : List Value} {Z : gZ} {I : gI} {J : gJ} : g_at 74 60 [l0, l1, l2, l3, l4, .int x, l6, l7] S Z I J = g_at 74 62 [l0, l1, l2, l3, l4, .int x, l6, l7] (.int x :: S) Z I J := gq_iload e_74_60 rfl
theorem e_74_62 : g_Pg 74 62 = ga_push (.int (-1)) 63 := (congrFun pg_74 62).trans rfl
theorem q_74_62 {L : List Value} {S : List Value} {Z : gZ} {I : gI} {J : gJ} : g_at 74 62 L S Z I J = g_at 74 63 L (.int (-1) :: S) Z I J := gq_push e_74_62
theorem e_74_63 : g_Pg 74 63 = ga_cmp (fun x y => decide (¬ x = y)) 69 66 := (congrFun pg_74 63).trans rfl
theorem q_74_63 {L : List Value} {x y : Int32} {S : List Value} {Z : gZ} {I : gI} {J : gJ} : g_at 74 63 L (.int y :: .int x :: S) Z I J = if ¬ x = y then g_at 74 69 L S Z I J else g_at 74 66 L S Z I J := gq_cmp e_74_63 rfl
theorem e_74_66 : g_Pg 74 66 = ga_iload 4 68 := (congrFun pg_74 66).trans rfl
theorem q_74_66 {l0 l1 l2 l3 l5 l6 l7 : Value} {x : Int32} {S : List Value} {Z : gZ} {I : gI} {J : gJ} : g_at 74 66 [l0, l1, l2, l3, .int x, l5, l6, l7] S Z I J = g_at 74 68 [l0, l1, l2, l3, .int x, l5, l6, l7] (.int x :: S) Z I J := gq_iload e_74_66 rfl
theorem e_74_68 : g_Pg 74 68 = ga_iret := (congrFun pg_74 68).trans rfl
theorem q_74_68 {L : List Value} {x : Int32} {Z : gZ} {I : gI} {J : gJ} : g_at 74 68 L [.int x] Z I J = some (some (.int x), Z, I, J) := gq_iret e_74_68
theorem e_74_69 : g_Pg 74 69 = ga_push (.int 10) 71 := (congrFun pg_74 69).trans rfl
theorem q_74_69 {L : List Value} {S : List Value} {Z : gZ} {I : gI} {J : gJ} : g_at 74 69 L S Z I J = g_at 74 71 L (.int 10 :: S) Z I J := gq_push e_74_69
theorem e_74_71 : g_Pg 74 71 = ga_iload 3 72 := (congrFun pg_74 71).trans rfl
theorem q_74_71 {l0 l1 l2 l4 l5 l6 l7 : Value} {x : Int32} {S : List Value} {Z : gZ} {I : gI} {J : gJ} : g_at 74 71 [l0, l1, l2, .int x, l4, l5, l6, l7] S Z I J = g_at 74 72 [l0, l1, l2, .int x, l4, l5, l6, l7] (.int x :: S) Z I J := gq_iload e_74_71 rfl
theorem e_74_72 : g_Pg 74 72 = ga_bin (fun x y => x - y) 73 := (congrFun pg_74 72).trans rfl
theorem q_74_72 {L : List Value} {x y : Int32} {S : List Value} {Z : gZ} {I : gI} {J : gJ} : g_at 74 72 L (.int y :: .int x :: S) Z I J = g_at 74 73 L (.int (x - y) :: S) Z I J := gq_bin e_74_72
theorem e_74_73 : g_Pg 74 73 = ga_push (.int 10) 75 := (congrFun pg_74 73).trans rfl
theorem q_74_73 {L : List Value} {S : List Value} {Z : gZ} {I : gI} {J : gJ} : g_at 74 73 L S Z I J = g_at 74 75 L (.int 10 :: S) Z I J := gq_push e_74_73
theorem e_74_75 : g_Pg 74 75 = ga_call 76 2 78 := (congrFun pg_74 75).trans rfl
theorem q_74_75 {L : List Value} {a0 : Int32} {a1 : Int32} {Z : gZ} {I : gI} {J : gJ} : g_at 74 75 L [.int a0, .int a1] Z I J = (g_at 76 0 [.int a1, .int a0, .null] [] Z I J).bind (fun r => g_at 74 78 L (r.1.toList ++ []) r.2.1 r.2.2.1 r.2.2.2) := gq_call e_74_75 rfl rfl rfl rfl rfl
theorem e_74_78 : g_Pg 74 78 = ga_istore 6 80 := (congrFun pg_74 78).trans rfl
theorem q_74_78 {l0 l1 l2 l3 l4 l5 l6 l7 : Value} {x : Int32} {S : List Value} {Z : gZ} {I : gI} {J : gJ} (h : gN1 l5 = true) : g_at 74 78 [l0, l1, l2, l3, l4, l5, l6, l7] (.int x :: S) Z I J = g_at 74 80 [l0, l1, l2, l3, l4, l5, .int x, l7] S Z I J := gq_istore e_74_78 h rfl rfl
theorem e_74_80 : g_Pg 74 80 = ga_iload 4 82 := (congrFun pg_74 80).trans rfl
theorem q_74_80 {l0 l1 l2 l3 l5 l6 l7 : Value} {x : Int32} {S : List Value} {Z : gZ} {I : gI} {J : gJ} : g_at 74 80 [l0, l1, l2, l3, .int x, l5, l6, l7] S Z I J = g_at 74 82 [l0, l1, l2, l3, .int x, l5, l6, l7] (.int x :: S) Z I J := gq_iload e_74_80 rfl
theorem e_74_82 : g_Pg 74 82 = ga_if (fun x => decide (¬ x = 0)) 92 85 := (congrFun pg_74 82).trans rfl
theorem q_74_82 {L : List Value} {x : Int32} {S : List Value} {Z : gZ} {I : gI} {J : gJ} : g_at 74 82 L (.int x :: S) Z I J = if ¬ x = 0 then g_at 74 92 L S Z I J else g_at 74 85 L S Z I J := gq_if e_74_82 rfl
theorem e_74_85 : g_Pg 74 85 = ga_push (.int 10) 87 := (congrFun pg_74 85).trans rfl
theorem q_74_85 {L : List Value} {S : List Value} {Z : gZ} {I : gI} {J : gJ} : g_at 74 85 L S Z I J = g_at 74 87 L (.int 10 :: S) Z I J := gq_push e_74_85
theorem e_74_87 : g_Pg 74 87 = ga_iload 3 88 := (congrFun pg_74 87).trans rfl
theorem q_74_87 {l0 l1 l2 l4 l5 l6 l7 : Value} {x : Int32} {S : List Value} {Z : gZ} {I : gI} {J : gJ} : g_at 74 87 [l0, l1, l2, .int x, l4, l5, l6, l7] S Z I J = g_at 74 88 [l0, l1, l2, .int x, l4, l5, l6, l7] (.int x :: S) Z I J := gq_iload e_74_87 rfl
theorem e_74_88 : g_Pg 74 88 = ga_bin (fun x y => x - y) 89 := (congrFun pg_74 88).trans rfl
theorem q_74_88 {L : List Value} {x y : Int32} {S : List Value} {Z : gZ} {I : gI} {J : gJ} : g_at 74 88 L (.int y :: .int x :: S) Z I J = g_at 74 89 L (.int (x - y) :: S) Z I J := gq_bin e_74_88
theorem e_74_89 : g_Pg 74 89 = ga_goto 94 := (congrFun pg_74 89).trans rfl
theorem q_74_89 {L : List Value} {S : List Value} {Z : gZ} {I : gI} {J : gJ} : g_at 74 89 L S Z I J = g_at 74 94 L S Z I J := gq_goto e_74_89
theorem e_74_92 : g_Pg 74 92 = ga_push (.int 10) 94 := (congrFun pg_74 92).trans rfl
theorem q_74_92 {L : List Value} {S : List Value} {Z : gZ} {I : gI} {J : gJ} : g_at 74 92 L S Z I J = g_at 74 94 L (.int 10 :: S) Z I J := gq_push e_74_92
theorem e_74_94 : g_Pg 74 94 = ga_istore 7 96 := (congrFun pg_74 94).trans rfl
theorem q_74_94 {l0 l1 l2 l3 l4 l5 l6 l7 : Value} {x : Int32} {S : List Value} {Z : gZ} {I : gI} {J : gJ} (h : gN1 l6 = true) : g_at 74 94 [l0, l1, l2, l3, l4, l5, l6, l7] (.int x :: S) Z I J = g_at 74 96 [l0, l1, l2, l3, l4, l5, l6, .int x] S Z I J := gq_istore e_74_94 h rfl rfl
theorem e_74_96 : g_Pg 74 96 = ga_iload 6 98 := (congrFun pg_74 96).trans rfl
theorem q_74_96 {l0 l1 l2 l3 l4 l5 l7 : Value} {x : Int32} {S : List Value} {Z : gZ} {I : gI} {J : gJ} : g_at 74 96 [l0, l1, l2, l3, l4, l5, .int x, l7] S Z I J = g_at 74 98 [l0, l1, l2, l3, l4, l5, .int x, l7] (.int x :: S) Z I J := gq_iload e_74_96 rfl
theorem e_74_98 : g_Pg 74 98 = ga_if (fun x => decide (x ≤ 0)) 109 101 := (congrFun pg_74 98).trans rfl
theorem q_74_98 {L : List Value} {x : Int32} {S : List Value} {Z : gZ} {I : gI} {J : gJ} : g_at 74 98 L (.int x :: S) Z I J = if x ≤ 0 then g_at 74 109 L S Z I J else g_at 74 101 L S Z I J := gq_if e_74_98 rfl
theorem e_74_101 : g_Pg 74 101 = ga_iload 7 103 := (congrFun pg_74 101).trans rfl
theorem q_74_101 {l0 l1 l2 l3 l4 l5 l6 : Value} {x : Int32} {S : List Value} {Z : gZ} {I : gI} {J : gJ} : g_at 74 101 [l0, l1, l2, l3, l4, l5, l6, .int x] S Z I J = g_at 74 103 [l0, l1, l2, l3, l4, l5, l6, .int x] (.int x :: S) Z I J := gq_iload e_74_101 rfl
theorem e_74_103 : g_Pg 74 103 = ga_iload 6 105 := (congrFun pg_74 103).trans rfl
theorem q_74_103 {l0 l1 l2 l3 l4 l5 l7 : Value} {x : Int32} {S : List Value} {Z : gZ} {I : gI} {J : gJ} : g_at 74 103 [l0, l1, l2, l3, l4, l5, .int x, l7] S Z I J = g_at 74 105 [l0, l1, l2, l3, l4, l5, .int x, l7] (.int x :: S) Z I J := gq_iload e_74_103 rfl
theorem e_74_105 : g_Pg 74 105 = ga_div (fun x y => x / y) 106 := (congrFun pg_74 105).trans rfl
theorem q_74_105 {L : List Value} {x y : Int32} {S : List Value} {Z : gZ} {I : gI} {J : gJ} (h : ¬ y = 0) : g_at 74 105 L (.int y :: .int x :: S) Z I J = g_at 74 106 L (.int (x / y) :: S) Z I J := gq_div e_74_105 h
theorem e_74_106 : g_Pg 74 106 = ga_goto 111 := (congrFun pg_74 106).trans rfl
theorem q_74_106 {L : List Value} {S : List Value} {Z : gZ} {I : gI} {J : gJ} : g_at 74 106 L S Z I J = g_at 74 111 L S Z I J := gq_goto e_74_106
theorem e_74_109 : g_Pg 74 109 = ga_iload 7 111 := (congrFun pg_74 109).trans rfl
theorem q_74_109 {l0 l1 l2 l3 l4 l5 l6 : Value} {x : Int32} {S : List Value} {Z : gZ} {I : gI} {J : gJ} : g_at 74 109 [l0, l1, l2, l3, l4, l5, l6, .int x] S Z I J = g_at 74 111 [l0, l1, l2, l3, l4, l5, l6, .int x] (.int x :: S) Z I J := gq_iload e_74_109 rfl
theorem e_74_111 : g_Pg 74 111 = ga_iload 5 113 := (congrFun pg_74 111).trans rfl
theorem q_74_111 {l0 l1 l2 l3 l4 l6 l7 : Value} {x : Int32} {S : List Value} {Z : gZ} {I : gI} {J : gJ} : g_at 74 111 [l0, l1, l2, l3, l4, .int x, l6, l7] S Z I J = g_at 74 113 [l0, l1, l2, l3, l4, .int x, l6, l7] (.int x :: S) Z I J := gq_iload e_74_111 rfl
theorem e_74_113 : g_Pg 74 113 = ga_call 77 2 116 := (congrFun pg_74 113).trans rfl
theorem q_74_113 {L : List Value} {a0 : Int32} {a1 : Int32} {Z : gZ} {I : gI} {J : gJ} : g_at 74 113 L [.int a0, .int a1] Z I J = (g_at 77 0 [.int a1, .int a0, .null, .null] [] Z I J).bind (fun r => g_at 74 116 L (r.1.toList ++ []) r.2.1 r.2.2.1 r.2.2.2) := gq_call e_74_113 rfl rfl rfl rfl rfl
theorem e_74_116 : g_Pg 74 116 = ga_iret := (congrFun pg_74 116).trans rfl
theorem q_74_116 {L : List Value} {x : Int32} {Z : gZ} {I : gI} {J : gJ} : g_at 74 116 L [.int x] Z I J = some (some (.int x), Z, I, J) := gq_iret e_74_116
theorem e_75_0 : g_Pg 75 0 = ga_aload 0 1 := (congrFun pg_75 0).trans rfl
theorem q_75_0 {x : Nat} {S : List Value} {Z : gZ} {I : gI} {J : gJ} : g_at 75 0 [.ref x] S Z I J = g_at 75 1 [.ref x] (.ref x :: S) Z I J := gq_aload e_75_0 rfl
theorem e_75_1 : g_Pg 75 1 = ga_getR 6 7 4 := (congrFun pg_75 1).trans rfl
theorem q_75_1 {L : List Value} {a : Nat} {S : List Value} {Z : gZ} {I : gI} {J : gJ} (h : (gKd Z a).1 = 6) (h1 : gRs Z a 7 = true) : g_at 75 1 L (.ref a :: S) Z I J = g_at 75 4 L (.ref (gRq Z a 7) :: S) Z I J := gq_getR e_75_1 h h1
theorem e_75_4 : g_Pg 75 4 = ga_aload 0 5 := (congrFun pg_75 4).trans rfl
theorem q_75_4 {x : Nat} {S : List Value} {Z : gZ} {I : gI} {J : gJ} : g_at 75 4 [.ref x] S Z I J = g_at 75 5 [.ref x] (.ref x :: S) Z I J := gq_aload e_75_4 rfl
theorem e_75_5 : g_Pg 75 5 = ga_getR 6 1 8 := (congrFun pg_75 5).trans rfl
theorem q_75_5 {L : List Value} {a : Nat} {S : List Value} {Z : gZ} {I : gI} {J : gJ} (h : (gKd Z a).1 = 6) (h1 : gRs Z a 1 = true) : g_at 75 5 L (.ref a :: S) Z I J = g_at 75 8 L (.ref (gRq Z a 1) :: S) Z I J := gq_getR e_75_5 h h1
theorem e_75_8 : g_Pg 75 8 = ga_aload 0 9 := (congrFun pg_75 8).trans rfl
theorem q_75_8 {x : Nat} {S : List Value} {Z : gZ} {I : gI} {J : gJ} : g_at 75 8 [.ref x] S Z I J = g_at 75 9 [.ref x] (.ref x :: S) Z I J := gq_aload e_75_8 rfl
theorem e_75_9 : g_Pg 75 9 = ga_getR 6 3 12 := (congrFun pg_75 9).trans rfl
theorem q_75_9 {L : List Value} {a : Nat} {S : List Value} {Z : gZ} {I : gI} {J : gJ} (h : (gKd Z a).1 = 6) (h1 : gRs Z a 3 = true) : g_at 75 9 L (.ref a :: S) Z I J = g_at 75 12 L (.ref (gRq Z a 3) :: S) Z I J := gq_getR e_75_9 h h1
theorem e_75_12 : g_Pg 75 12 = ga_getI 2 4 15 := (congrFun pg_75 12).trans rfl
theorem q_75_12 {L : List Value} {a : Nat} {S : List Value} {Z : gZ} {I : gI} {J : gJ} (h : (gKd Z a).1 = 2) : g_at 75 12 L (.ref a :: S) Z I J = g_at 75 15 L (.int (I a 4) :: S) Z I J := gq_getI e_75_12 h
theorem e_75_15 : g_Pg 75 15 = ga_callV 1 9 2 18 := (congrFun pg_75 15).trans rfl
theorem q_75_15 {L : List Value} {a0 : Int32} {a1 : Nat} {a2 : Nat} {Z : gZ} {I : gI} {J : gJ} (h : (gKd Z a2).1 = 1) : g_at 75 15 L [.int a0, .ref a1, .ref a2] Z I J = (g_at 9 0 [.ref a2, .ref a1, .int a0] [] Z I J).bind (fun r => g_at 75 18 L (r.1.toList ++ []) r.2.1 r.2.2.1 r.2.2.2) := gq_callV e_75_15 rfl rfl h rfl rfl rfl rfl rfl
theorem e_75_18 : g_Pg 75 18 = ga_aload 0 19 := (congrFun pg_75 18).trans rfl
theorem q_75_18 {x : Nat} {S : List Value} {Z : gZ} {I : gI} {J : gJ} : g_at 75 18 [.ref x] S Z I J = g_at 75 19 [.ref x] (.ref x :: S) Z I J := gq_aload e_75_18 rfl
theorem e_75_19 : g_Pg 75 19 = ga_getR 6 7 22 := (congrFun pg_75 19).trans rfl
theorem q_75_19 {L : List Value} {a : Nat} {S : List Value} {Z : gZ} {I : gI} {J : gJ} (h : (gKd Z a).1 = 6) (h1 : gRs Z a 7 = true) : g_at 75 19 L (.ref a :: S) Z I J = g_at 75 22 L (.ref (gRq Z a 7) :: S) Z I J := gq_getR e_75_19 h h1
theorem e_75_22 : g_Pg 75 22 = ga_aret := (congrFun pg_75 22).trans rfl
theorem q_75_22 {L : List Value} {x : Nat} {Z : gZ} {I : gI} {J : gJ} : g_at 75 22 L [.ref x] Z I J = some (some (.ref x), Z, I, J) := gq_aret e_75_22
theorem e_76_0 : g_Pg 76 0 = ga_iload 1 1 := (congrFun pg_76 0).trans rfl
theorem q_76_0 {l0 l2 : Value} {x : Int32} {S : List Value} {Z : gZ} {I : gI} {J : gJ} : g_at 76 0 [l0, .int x, l2] S Z I J = g_at 76 1 [l0, .int x, l2] (.int x :: S) Z I J := gq_iload e_76_0 rfl
theorem e_76_1 : g_Pg 76 1 = ga_istore 2 2 := (congrFun pg_76 1).trans rfl
theorem q_76_1 {l0 l1 l2 : Value} {x : Int32} {S : List Value} {Z : gZ} {I : gI} {J : gJ} (h : gN1 l1 = true) : g_at 76 1 [l0, l1, l2] (.int x :: S) Z I J = g_at 76 2 [l0, l1, .int x] S Z I J := gq_istore e_76_1 h rfl rfl
theorem e_76_2 : g_Pg 76 2 = ga_iload 2 3 := (congrFun pg_76 2).trans rfl
theorem q_76_2 {l0 l1 : Value} {x : Int32} {S : List Value} {Z : gZ} {I : gI} {J : gJ} : g_at 76 2 [l0, l1, .int x] S Z I J = g_at 76 3 [l0, l1, .int x] (.int x :: S) Z I J := gq_iload e_76_2 rfl
theorem e_76_3 : g_Pg 76 3 = ga_push (.int 1) 4 := (congrFun pg_76 3).trans rfl
theorem q_76_3 {L : List Value} {S : List Value} {Z : gZ} {I : gI} {J : gJ} : g_at 76 3 L S Z I J = g_at 76 4 L (.int 1 :: S) Z I J := gq_push e_76_3
theorem e_76_4 : g_Pg 76 4 = ga_cmp (fun x y => decide (x ≤ y)) 27 7 := (congrFun pg_76 4).trans rfl
theorem q_76_4 {L : List Value} {x y : Int32} {S : List Value} {Z : gZ} {I : gI} {J : gJ} : g_at 76 4 L (.int y :: .int x :: S) Z I J = if x ≤ y then g_at 76 27 L S Z I J else g_at 76 7 L S Z I J := gq_cmp e_76_4 rfl
theorem e_76_7 : g_Pg 76 7 = ga_iload 0 8 := (congrFun pg_76 7).trans rfl
theorem q_76_7 {l1 l2 : Value} {x : Int32} {S : List Value} {Z : gZ} {I : gI} {J : gJ} : g_at 76 7 [.int x, l1, l2] S Z I J = g_at 76 8 [.int x, l1, l2] (.int x :: S) Z I J := gq_iload e_76_7 rfl
theorem e_76_8 : g_Pg 76 8 = ga_iload 2 9 := (congrFun pg_76 8).trans rfl
theorem q_76_8 {l0 l1 : Value} {x : Int32} {S : List Value} {Z : gZ} {I : gI} {J : gJ} : g_at 76 8 [l0, l1, .int x] S Z I J = g_at 76 9 [l0, l1, .int x] (.int x :: S) Z I J := gq_iload e_76_8 rfl
theorem e_76_9 : g_Pg 76 9 = ga_div (fun x y => x - x / y * y) 10 := (congrFun pg_76 9).trans rfl
theorem q_76_9 {L : List Value} {x y : Int32} {S : List Value} {Z : gZ} {I : gI} {J : gJ} (h : ¬ y = 0) : g_at 76 9 L (.int y :: .int x :: S) Z I J = g_at 76 10 L (.int (x - x / y * y) :: S) Z I J := gq_div e_76_9 h
theorem e_76_10 : g_Pg 76 10 = ga_if (fun x => decide (¬ x = 0)) 21 13 := (congrFun pg_76 10).trans rfl
theorem q_76_10 {L : List Value} {x : Int32} {S : List Value} {Z : gZ} {I : gI} {J : gJ} : g_at 76 10 L (.int x :: S) Z I J = if ¬ x = 0 then g_at 76 21 L S Z I J else g_at 76 13 L S Z I J := gq_if e_76_10 rfl
theorem e_76_13 : g_Pg 76 13 = ga_iload 1 14 := (congrFun pg_76 13).trans rfl
theorem q_76_13 {l0 l2 : Value} {x : Int32} {S : List Value} {Z : gZ} {I : gI} {J : gJ} : g_at 76 13 [l0, .int x, l2] S Z I J = g_at 76 14 [l0, .int x, l2] (.int x :: S) Z I J := gq_iload e_76_13 rfl
theorem e_76_14 : g_Pg 76 14 = ga_iload 2 15 := (congrFun pg_76 14).trans rfl
theorem q_76_14 {l0 l1 : Value} {x : Int32} {S : List Value} {Z : gZ} {I : gI} {J : gJ} : g_at 76 14 [l0, l1, .int x] S Z I J = g_at 76 15 [l0, l1, .int x] (.int x :: S) Z I J := gq_iload e_76_14 rfl
theorem e_76_15 : g_Pg 76 15 = ga_div (fun x y => x - x / y * y) 16 := (congrFun pg_76 15).trans rfl
theorem q_76_15 {L : List Value} {x y : Int32} {S : List Value} {Z : gZ} {I : gI} {J : gJ} (h : ¬ y = 0) : g_at 76 15 L (.int y :: .int x :: S) Z I J = g_at 76 16 L (.int (x - x / y * y) :: S) Z I J := gq_div e_76_15 h
theorem e_76_16 : g_Pg 76 16 = ga_if (fun x => decide (¬ x = 0)) 21 19 := (congrFun pg_76 16).trans rfl
theorem q_76_16 {L : List Value} {x : Int32} {S : List Value} {Z : gZ} {I : gI} {J : gJ} : g_at 76 16 L (.int x :: S) Z I J = if ¬ x = 0 then g_at 76 21 L S Z I J else g_at 76 19 L S Z I J := gq_if e_76_16 rfl
theorem e_76_19 : g_Pg 76 19 = ga_iload 2 20 := (congrFun pg_76 19).trans rfl
theorem q_76_19 {l0 l1 : Value} {x : Int32} {S : List Value} {Z : gZ} {I : gI} {J : gJ} : g_at 76 19 [l0, l1, .int x] S Z I J = g_at 76 20 [l0, l1, .int x] (.int x :: S) Z I J := gq_iload e_76_19 rfl
theorem e_76_20 : g_Pg 76 20 = ga_iret := (congrFun pg_76 20).trans rfl
theorem q_76_20 {L : List Value} {x : Int32} {Z : gZ} {I : gI} {J : gJ} : g_at 76 20 L [.int x] Z I J = some (some (.int x), Z, I, J) := gq_iret e_76_20
theorem e_76_21 : g_Pg 76 21 = ga_iinc 2 (-1) 24 := (congrFun pg_76 21).trans rfl
theorem q_76_21 {l0 l1 : Value} {x : Int32} {S : List Value} {Z : gZ} {I : gI} {J : gJ} (h : gN1 l1 = true) : g_at 76 21 [l0, l1, .int x] S Z I J = g_at 76 24 [l0, l1, .int (x + (-1))] S Z I J := gq_iinc e_76_21 rfl h rfl
theorem e_76_24 : g_Pg 76 24 = ga_goto 2 := (congrFun pg_76 24).trans rfl
theorem q_76_24 {L : List Value} {S : List Value} {Z : gZ} {I : gI} {J : gJ} : g_at 76 24 L S Z I J = g_at 76 2 L S Z I J := gq_goto e_76_24
theorem e_76_27 : g_Pg 76 27 = ga_push (.int 1) 28 := (congrFun pg_76 27).trans rfl
theorem q_76_27 {L : List Value} {S : List Value} {Z : gZ} {I : gI} {J : gJ} : g_at 76 27 L S Z I J = g_at 76 28 L (.int 1 :: S) Z I J := gq_push e_76_27
theorem e_76_28 : g_Pg 76 28 = ga_iret := (congrFun pg_76 28).trans rfl
theorem q_76_28 {L : List Value} {x : Int32} {Z : gZ} {I : gI} {J : gJ} : g_at 76 28 L [.int x] Z I J = some (some (.int x), Z, I, J) := gq_iret e_76_28
theorem e_77_0 : g_Pg 77 0 = ga_push (.int 1) 1 := (congrFun pg_77 0).trans rfl
theorem q_77_0 {L : List Value} {S : List Value} {Z : gZ} {I : gI} {J : gJ} : g_at 77 0 L S Z I J = g_at 77 1 L (.int 1 :: S) Z I J := gq_push e_77_0
theorem e_77_1 : g_Pg 77 1 = ga_istore 2 2 := (congrFun pg_77 1).trans rfl
theorem q_77_1 {l0 l1 l2 l3 : Value} {x : Int32} {S : List Value} {Z : gZ} {I : gI} {J : gJ} (h : gN1 l1 = true) : g_at 77 1 [l0, l1, l2, l3] (.int x :: S) Z I J = g_at 77 2 [l0, l1, .int x, l3] S Z I J := gq_istore e_77_1 h rfl rfl
theorem e_77_2 : g_Pg 77 2 = ga_push (.int 0) 3 := (congrFun pg_77 2).trans rfl
theorem q_77_2 {L : List Value} {S : List Value} {Z : gZ} {I : gI} {J : gJ} : g_at 77 2 L S Z I J = g_at 77 3 L (.int 0 :: S) Z I J := gq_push e_77_2
theorem e_77_3 : g_Pg 77 3 = ga_istore 3 4 := (congrFun pg_77 3).trans rfl
theorem q_77_3 {l0 l1 l2 l3 : Value} {x : Int32} {S : List Value} {Z : gZ} {I : gI} {J : gJ} (h : gN1 l2 = true) : g_at 77 3 [l0, l1, l2, l3] (.int x :: S) Z I J = g_at 77 4 [l0, l1, l2, .int x] S Z I J := gq_istore e_77_3 h rfl rfl
theorem e_77_4 : g_Pg 77 4 = ga_iload 3 5 := (congrFun pg_77 4).trans rfl
theorem q_77_4 {l0 l1 l2 : Value} {x : Int32} {S : List Value} {Z : gZ} {I : gI} {J : gJ} : g_at 77 4 [l0, l1, l2, .int x] S Z I J = g_at 77 5 [l0, l1, l2, .int x] (.int x :: S) Z I J := gq_iload e_77_4 rfl
theorem e_77_5 : g_Pg 77 5 = ga_iload 1 6 := (congrFun pg_77 5).trans rfl
theorem q_77_5 {l0 l2 l3 : Value} {x : Int32} {S : List Value} {Z : gZ} {I : gI} {J : gJ} : g_at 77 5 [l0, .int x, l2, l3] S Z I J = g_at 77 6 [l0, .int x, l2, l3] (.int x :: S) Z I J := gq_iload e_77_5 rfl
theorem e_77_6 : g_Pg 77 6 = ga_cmp (fun x y => decide (y ≤ x)) 19 9 := (congrFun pg_77 6).trans rfl
theorem q_77_6 {L : List Value} {x y : Int32} {S : List Value} {Z : gZ} {I : gI} {J : gJ} : g_at 77 6 L (.int y :: .int x :: S) Z I J = if y ≤ x then g_at 77 19 L S Z I J else g_at 77 9 L S Z I J := gq_cmp e_77_6 rfl
theorem e_77_9 : g_Pg 77 9 = ga_iload 2 10 := (congrFun pg_77 9).trans rfl
theorem q_77_9 {l0 l1 l3 : Value} {x : Int32} {S : List Value} {Z : gZ} {I : gI} {J : gJ} : g_at 77 9 [l0, l1, .int x, l3] S Z I J = g_at 77 10 [l0, l1, .int x, l3] (.int x :: S) Z I J := gq_iload e_77_9 rfl
theorem e_77_10 : g_Pg 77 10 = ga_iload 0 11 := (congrFun pg_77 10).trans rfl
theorem q_77_10 {l1 l2 l3 : Value} {x : Int32} {S : List Value} {Z : gZ} {I : gI} {J : gJ} : g_at 77 10 [.int x, l1, l2, l3] S Z I J = g_at 77 11 [.int x, l1, l2, l3] (.int x :: S) Z I J := gq_iload e_77_10 rfl
theorem e_77_11 : g_Pg 77 11 = ga_bin (fun x y => x * y) 12 := (congrFun pg_77 11).trans rfl
theorem q_77_11 {L : List Value} {x y : Int32} {S : List Value} {Z : gZ} {I : gI} {J : gJ} : g_at 77 11 L (.int y :: .int x :: S) Z I J = g_at 77 12 L (.int (x * y) :: S) Z I J := gq_bin e_77_11
theorem e_77_12 : g_Pg 77 12 = ga_istore 2 13 := (congrFun pg_77 12).trans rfl
theorem q_77_12 {l0 l1 l2 l3 : Value} {x : Int32} {S : List Value} {Z : gZ} {I : gI} {J : gJ} (h : gN1 l1 = true) : g_at 77 12 [l0, l1, l2, l3] (.int x :: S) Z I J = g_at 77 13 [l0, l1, .int x, l3] S Z I J := gq_istore e_77_12 h rfl rfl
theorem e_77_13 : g_Pg 77 13 = ga_iinc 3 1 16 := (congrFun pg_77 13).trans rfl
theorem q_77_13 {l0 l1 l2 : Value} {x : Int32} {S : List Value} {Z : gZ} {I : gI} {J : gJ} (h : gN1 l2 = true) : g_at 77 13 [l0, l1, l2, .int x] S Z I J = g_at 77 16 [l0, l1, l2, .int (x + 1)] S Z I J := gq_iinc e_77_13 rfl h rfl
theorem e_77_16 : g_Pg 77 16 = ga_goto 4 := (congrFun pg_77 16).trans rfl
theorem q_77_16 {L : List Value} {S : List Value} {Z : gZ} {I : gI} {J : gJ} : g_at 77 16 L S Z I J = g_at 77 4 L S Z I J := gq_goto e_77_16
theorem e_77_19 : g_Pg 77 19 = ga_iload 2 20 := (congrFun pg_77 19).trans rfl
theorem q_77_19 {l0 l1 l3 : Value} {x : Int32} {S : List Value} {Z : gZ} {I : gI} {J : gJ} : g_at 77 19 [l0, l1, .int x, l3] S Z I J = g_at 77 20 [l0, l1, .int x, l3] (.int x :: S) Z I J := gq_iload e_77_19 rfl
theorem e_77_20 : g_Pg 77 20 = ga_iret := (congrFun pg_77 20).trans rfl
theorem q_77_20 {L : List Value} {x : Int32} {Z : gZ} {I : gI} {J : gJ} : g_at 77 20 L [.int x] Z I J = some (some (.int x), Z, I, J) := gq_iret e_77_20
theorem e_78_0 : g_Pg 78 0 = ga_aload 0 1 := (congrFun pg_78 0).trans rfl
theorem q_78_0 {l1 l2 : Value} {x : Nat} {S : List Value} {Z : gZ} {I : gI} {J : gJ} : g_at 78 0 [.ref x, l1, l2] S Z I J = g_at 78 1 [.ref x, l1, l2] (.ref x :: S) Z I J := gq_aload e_78_0 rfl
theorem e_78_1 : g_Pg 78 1 = ga_getR 6 1 4 := (congrFun pg_78 1).trans rfl
theorem q_78_1 {L : List Value} {a : Nat} {S : List Value} {Z : gZ} {I : gI} {J : gJ} (h : (gKd Z a).1 = 6) (h1 : gRs Z a 1 = true) : g_at 78 1 L (.ref a :: S) Z I J = g_at 78 4 L (.ref (gRq Z a 1) :: S) Z I J := gq_getR e_78_1 h h1
theorem e_78_4 : g_Pg 78 4 = ga_iload 1 5 := (congrFun pg_78 4).trans rfl
theorem q_78_4 {l0 l2 : Value} {x : Int32} {S : List Value} {Z : gZ} {I : gI} {J : gJ} : g_at 78 4 [l0, .int x, l2] S Z I J = g_at 78 5 [l0, .int x, l2] (.int x :: S) Z I J := gq_iload e_78_4 rfl
theorem e_78_5 : g_Pg 78 5 = ga_callV 0 3 1 8 := (congrFun pg_78 5).trans rfl
theorem q_78_5 {L : List Value} {a0 : Int32} {a1 : Nat} {Z : gZ} {I : gI} {J : gJ} (h : (gKd Z a1).1 = 0) : g_at 78 5 L [.int a0, .ref a1] Z I J = (g_at 3 0 [.ref a1, .int a0] [] Z I J).bind (fun r => g_at 78 8 L (r.1.toList ++ []) r.2.1 r.2.2.1 r.2.2.2) := gq_callV e_78_5 rfl rfl h rfl rfl rfl rfl rfl
theorem e_78_8 : g_Pg 78 8 = ga_if (fun x => decide (¬ x = 0)) 14 11 := (congrFun pg_78 8).trans rfl
theorem q_78_8 {L : List Value} {x : Int32} {S : List Value} {Z : gZ} {I : gI} {J : gJ} : g_at 78 8 L (.int x :: S) Z I J = if ¬ x = 0 then g_at 78 14 L S Z I J else g_at 78 11 L S Z I J := gq_if e_78_8 rfl
theorem e_78_11 : g_Pg 78 11 = ga_push (.int (-2)) 13 := (congrFun pg_78 11).trans rfl
theorem q_78_11 {L : List Value} {S : List Value} {Z : gZ} {I : gI} {J : gJ} : g_at 78 11 L S Z I J = g_at 78 13 L (.int (-2) :: S) Z I J := gq_push e_78_11
theorem e_78_13 : g_Pg 78 13 = ga_iret := (congrFun pg_78 13).trans rfl
theorem q_78_13 {L : List Value} {x : Int32} {Z : gZ} {I : gI} {J : gJ} : g_at 78 13 L [.int x] Z I J = some (some (.int x), Z, I, J) := gq_iret e_78_13
theorem e_78_14 : g_Pg 78 14 = ga_iload 2 15 := (congrFun pg_78 14).trans rfl
theorem q_78_14 {l0 l1 : Value} {x : Int32} {S : List Value} {Z : gZ} {I : gI} {J : gJ} : g_at 78 14 [l0, l1, .int x] S Z I J = g_at 78 15 [l0, l1, .int x] (.int x :: S) Z I J := gq_iload e_78_14 rfl
theorem e_78_15 : g_Pg 78 15 = ga_if (fun x => decide (x < 0)) 23 18 := (congrFun pg_78 15).trans rfl
theorem q_78_15 {L : List Value} {x : Int32} {S : List Value} {Z : gZ} {I : gI} {J : gJ} : g_at 78 15 L (.int x :: S) Z I J = if x < 0 then g_at 78 23 L S Z I J else g_at 78 18 L S Z I J := gq_if e_78_15 rfl
theorem e_78_18 : g_Pg 78 18 = ga_iload 2 19 := (congrFun pg_78 18).trans rfl
theorem q_78_18 {l0 l1 : Value} {x : Int32} {S : List Value} {Z : gZ} {I : gI} {J : gJ} : g_at 78 18 [l0, l1, .int x] S Z I J = g_at 78 19 [l0, l1, .int x] (.int x :: S) Z I J := gq_iload e_78_18 rfl
theorem e_78_19 : g_Pg 78 19 = ga_push (.int 1) 20 := (congrFun pg_78 19).trans rfl
theorem q_78_19 {L : List Value} {S : List Value} {Z : gZ} {I : gI} {J : gJ} : g_at 78 19 L S Z I J = g_at 78 20 L (.int 1 :: S) Z I J := gq_push e_78_19
theorem e_78_20 : g_Pg 78 20 = ga_cmp (fun x y => decide (x ≤ y)) 26 23 := (congrFun pg_78 20).trans rfl
theorem q_78_20 {L : List Value} {x y : Int32} {S : List Value} {Z : gZ} {I : gI} {J : gJ} : g_at 78 20 L (.int y :: .int x :: S) Z I J = if x ≤ y then g_at 78 26 L S Z I J else g_at 78 23 L S Z I J := gq_cmp e_78_20 rfl
theorem e_78_23 : g_Pg 78 23 = ga_push (.int (-3)) 25 := (congrFun pg_78 23).trans rfl
theorem q_78_23 {L : List Value} {S : List Value} {Z : gZ} {I : gI} {J : gJ} : g_at 78 23 L S Z I J = g_at 78 25 L (.int (-3) :: S) Z I J := gq_push e_78_23
theorem e_78_25 : g_Pg 78 25 = ga_iret := (congrFun pg_78 25).trans rfl
theorem q_78_25 {L : List Value} {x : Int32} {Z : gZ} {I : gI} {J : gJ} : g_at 78 25 L [.int x] Z I J = some (some (.int x), Z, I, J) := gq_iret e_78_25
theorem e_78_26 : g_Pg 78 26 = ga_aload 0 27 := (congrFun pg_78 26).trans rfl
theorem q_78_26 {l1 l2 : Value} {x : Nat} {S : List Value} {Z : gZ} {I : gI} {J : gJ} : g_at 78 26 [.ref x, l1, l2] S Z I J = g_at 78 27 [.ref x, l1, l2] (.ref x :: S) Z I J := gq_aload e_78_26 rfl
theorem e_78_27 : g_Pg 78 27 = ga_getR 6 6 30 := (congrFun pg_78 27).trans rfl
theorem q_78_27 {L : List Value} {a : Nat} {S : List Value} {Z : gZ} {I : gI} {J : gJ} (h : (gKd Z a).1 = 6) (h1 : gRs Z a 6 = true) : g_at 78 27 L (.ref a :: S) Z I J = g_at 78 30 L (.ref (gRq Z a 6) :: S) Z I J := gq_getR e_78_27 h h1
theorem e_78_30 : g_Pg 78 30 = ga_iload 1 31 := (congrFun pg_78 30).trans rfl
theorem q_78_30 {l0 l2 : Value} {x : Int32} {S : List Value} {Z : gZ} {I : gI} {J : gJ} : g_at 78 30 [l0, .int x, l2] S Z I J = g_at 78 31 [l0, .int x, l2] (.int x :: S) Z I J := gq_iload e_78_30 rfl
theorem e_78_31 : g_Pg 78 31 = ga_iload 2 32 := (congrFun pg_78 31).trans rfl
theorem q_78_31 {l0 l1 : Value} {x : Int32} {S : List Value} {Z : gZ} {I : gI} {J : gJ} : g_at 78 31 [l0, l1, .int x] S Z I J = g_at 78 32 [l0, l1, .int x] (.int x :: S) Z I J := gq_iload e_78_31 rfl
theorem e_78_32 : g_Pg 78 32 = ga_push (.int 1) 33 := (congrFun pg_78 32).trans rfl
theorem q_78_32 {L : List Value} {S : List Value} {Z : gZ} {I : gI} {J : gJ} : g_at 78 32 L S Z I J = g_at 78 33 L (.int 1 :: S) Z I J := gq_push e_78_32
theorem e_78_33 : g_Pg 78 33 = ga_cmp (fun x y => decide (¬ x = y)) 40 36 := (congrFun pg_78 33).trans rfl
theorem q_78_33 {L : List Value} {x y : Int32} {S : List Value} {Z : gZ} {I : gI} {J : gJ} : g_at 78 33 L (.int y :: .int x :: S) Z I J = if ¬ x = y then g_at 78 40 L S Z I J else g_at 78 36 L S Z I J := gq_cmp e_78_33 rfl
theorem e_78_36 : g_Pg 78 36 = ga_push (.int 1) 37 := (congrFun pg_78 36).trans rfl
theorem q_78_36 {L : List Value} {S : List Value} {Z : gZ} {I : gI} {J : gJ} : g_at 78 36 L S Z I J = g_at 78 37 L (.int 1 :: S) Z I J := gq_push e_78_36
theorem e_78_37 : g_Pg 78 37 = ga_goto 41 := (congrFun pg_78 37).trans rfl
theorem q_78_37 {L : List Value} {S : List Value} {Z : gZ} {I : gI} {J : gJ} : g_at 78 37 L S Z I J = g_at 78 41 L S Z I J := gq_goto e_78_37
theorem e_78_40 : g_Pg 78 40 = ga_push (.int 0) 41 := (congrFun pg_78 40).trans rfl
theorem q_78_40 {L : List Value} {S : List Value} {Z : gZ} {I : gI} {J : gJ} : g_at 78 40 L S Z I J = g_at 78 41 L (.int 0 :: S) Z I J := gq_push e_78_40
theorem e_78_41 : g_Pg 78 41 = ga_callV 3 32 2 44 := (congrFun pg_78 41).trans rfl
theorem q_78_41 {L : List Value} {a0 : Int32} {a1 : Int32} {a2 : Nat} {Z : gZ} {I : gI} {J : gJ} (h : (gKd Z a2).1 = 3) : g_at 78 41 L [.int a0, .int a1, .ref a2] Z I J = (g_at 32 0 [.ref a2, .int a1, .int a0] [] Z I J).bind (fun r => g_at 78 44 L (r.1.toList ++ []) r.2.1 r.2.2.1 r.2.2.2) := gq_callV e_78_41 rfl rfl h rfl rfl rfl rfl rfl
theorem e_78_44 : g_Pg 78 44 = ga_if (fun x => decide (x = 0)) 57 47 := (congrFun pg_78 44).trans rfl
theorem q_78_44 {L : List Value} {x : Int32} {S : List Value} {Z : gZ} {I : gI} {J : gJ} : g_at 78 44 L (.int x :: S) Z I J = if x = 0 then g_at 78 57 L S Z I J else g_at 78 47 L S Z I J := gq_if e_78_44 rfl
theorem e_78_47 : g_Pg 78 47 = ga_aload 0 48 := (congrFun pg_78 47).trans rfl
theorem q_78_47 {l1 l2 : Value} {x : Nat} {S : List Value} {Z : gZ} {I : gI} {J : gJ} : g_at 78 47 [.ref x, l1, l2] S Z I J = g_at 78 48 [.ref x, l1, l2] (.ref x :: S) Z I J := gq_aload e_78_47 rfl
theorem e_78_48 : g_Pg 78 48 = ga_getR 6 6 51 := (congrFun pg_78 48).trans rfl
theorem q_78_48 {L : List Value} {a : Nat} {S : List Value} {Z : gZ} {I : gI} {J : gJ} (h : (gKd Z a).1 = 6) (h1 : gRs Z a 6 = true) : g_at 78 48 L (.ref a :: S) Z I J = g_at 78 51 L (.ref (gRq Z a 6) :: S) Z I J := gq_getR e_78_48 h h1
theorem e_78_51 : g_Pg 78 51 = ga_getI 3 2 54 := (congrFun pg_78 51).trans rfl
theorem q_78_51 {L : List Value} {a : Nat} {S : List Value} {Z : gZ} {I : gI} {J : gJ} (h : (gKd Z a).1 = 3) : g_at 78 51 L (.ref a :: S) Z I J = g_at 78 54 L (.int (I a 2) :: S) Z I J := gq_getI e_78_51 h
theorem e_78_54 : g_Pg 78 54 = ga_goto 59 := (congrFun pg_78 54).trans rfl
theorem q_78_54 {L : List Value} {S : List Value} {Z : gZ} {I : gI} {J : gJ} : g_at 78 54 L S Z I J = g_at 78 59 L S Z I J := gq_goto e_78_54
theorem e_78_57 : g_Pg 78 57 = ga_push (.int (-5)) 59 := (congrFun pg_78 57).trans rfl
theorem q_78_57 {L : List Value} {S : List Value} {Z : gZ} {I : gI} {J : gJ} : g_at 78 57 L S Z I J = g_at 78 59 L (.int (-5) :: S) Z I J := gq_push e_78_57
theorem e_78_59 : g_Pg 78 59 = ga_iret := (congrFun pg_78 59).trans rfl
theorem q_78_59 {L : List Value} {x : Int32} {Z : gZ} {I : gI} {J : gJ} : g_at 78 59 L [.int x] Z I J = some (some (.int x), Z, I, J) := gq_iret e_78_59
theorem e_79_0 : g_Pg 79 0 = ga_aload 0 1 := (congrFun pg_79 0).trans rfl
theorem q_79_0 {l1 : Value} {x : Nat} {S : List Value} {Z : gZ} {I : gI} {J : gJ} : g_at 79 0 [.ref x, l1] S Z I J = g_at 79 1 [.ref x, l1] (.ref x :: S) Z I J := gq_aload e_79_0 rfl
theorem e_79_1 : g_Pg 79 1 = ga_getR 6 6 4 := (congrFun pg_79 1).trans rfl
theorem q_79_1 {L : List Value} {a : Nat} {S : List Value} {Z : gZ} {I : gI} {J : gJ} (h : (gKd Z a).1 = 6) (h1 : gRs Z a 6 = true) : g_at 79 1 L (.ref a :: S) Z I J = g_at 79 4 L (.ref (gRq Z a 6) :: S) Z I J := gq_getR e_79_1 h h1
theorem e_79_4 : g_Pg 79 4 = ga_getI 3 2 7 := (congrFun pg_79 4).trans rfl
theorem q_79_4 {L : List Value} {a : Nat} {S : List Value} {Z : gZ} {I : gI} {J : gJ} (h : (gKd Z a).1 = 3) : g_at 79 4 L (.ref a :: S) Z I J = g_at 79 7 L (.int (I a 2) :: S) Z I J := gq_getI e_79_4 h
theorem e_79_7 : g_Pg 79 7 = ga_istore 1 8 := (congrFun pg_79 7).trans rfl
theorem q_79_7 {l0 l1 : Value} {x : Int32} {S : List Value} {Z : gZ} {I : gI} {J : gJ} (h : gN1 l0 = true) : g_at 79 7 [l0, l1] (.int x :: S) Z I J = g_at 79 8 [l0, .int x] S Z I J := gq_istore e_79_7 h rfl rfl
theorem e_79_8 : g_Pg 79 8 = ga_aload 0 9 := (congrFun pg_79 8).trans rfl
theorem q_79_8 {l1 : Value} {x : Nat} {S : List Value} {Z : gZ} {I : gI} {J : gJ} : g_at 79 8 [.ref x, l1] S Z I J = g_at 79 9 [.ref x, l1] (.ref x :: S) Z I J := gq_aload e_79_8 rfl
theorem e_79_9 : g_Pg 79 9 = ga_getR 6 6 12 := (congrFun pg_79 9).trans rfl
theorem q_79_9 {L : List Value} {a : Nat} {S : List Value} {Z : gZ} {I : gI} {J : gJ} (h : (gKd Z a).1 = 6) (h1 : gRs Z a 6 = true) : g_at 79 9 L (.ref a :: S) Z I J = g_at 79 12 L (.ref (gRq Z a 6) :: S) Z I J := gq_getR e_79_9 h h1
theorem e_79_12 : g_Pg 79 12 = ga_push (.int 0) 13 := (congrFun pg_79 12).trans rfl
theorem q_79_12 {L : List Value} {S : List Value} {Z : gZ} {I : gI} {J : gJ} : g_at 79 12 L S Z I J = g_at 79 13 L (.int 0 :: S) Z I J := gq_push e_79_12
theorem e_79_13 : g_Pg 79 13 = ga_putI 3 2 16 := (congrFun pg_79 13).trans rfl
theorem q_79_13 {L : List Value} {a : Nat} {v : Int32} {S : List Value} {Z : gZ} {I : gI} {J : gJ} (h : (gKd Z a).1 = 3) : g_at 79 13 L (.int v :: .ref a :: S) Z I J = g_at 79 16 L S Z (va_up I a (va_up (I a) 2 v)) J := gq_putI e_79_13 h
theorem e_79_16 : g_Pg 79 16 = ga_iload 1 17 := (congrFun pg_79 16).trans rfl
theorem q_79_16 {l0 : Value} {x : Int32} {S : List Value} {Z : gZ} {I : gI} {J : gJ} : g_at 79 16 [l0, .int x] S Z I J = g_at 79 17 [l0, .int x] (.int x :: S) Z I J := gq_iload e_79_16 rfl
theorem e_79_17 : g_Pg 79 17 = ga_iret := (congrFun pg_79 17).trans rfl
theorem q_79_17 {L : List Value} {x : Int32} {Z : gZ} {I : gI} {J : gJ} : g_at 79 17 L [.int x] Z I J = some (some (.int x), Z, I, J) := gq_iret e_79_17
theorem e_80_0 : g_Pg 80 0 = ga_aload 0 1 := (congrFun pg_80 0).trans rfl
theorem q_80_0 {l1 l2 l3 l4 l5 : Value} {x : Nat} {S : List Value} {Z : gZ} {I : gI} {J : gJ} : g_at 80 0 [.ref x, l1, l2, l3, l4, l5] S Z I J = g_at 80 1 [.ref x, l1, l2, l3, l4, l5] (.ref x :: S) Z I J := gq_aload e_80_0 rfl
theorem e_80_1 : g_Pg 80 1 = ga_getR 6 1 4 := (congrFun pg_80 1).trans rfl
theorem q_80_1 {L : List Value} {a : Nat} {S : List Value} {Z : gZ} {I : gI} {J : gJ} (h : (gKd Z a).1 = 6) (h1 : gRs Z a 1 = true) : g_at 80 1 L (.ref a :: S) Z I J = g_at 80 4 L (.ref (gRq Z a 1) :: S) Z I J := gq_getR e_80_1 h h1
theorem e_80_4 : g_Pg 80 4 = ga_iload 1 5 := (congrFun pg_80 4).trans rfl
theorem q_80_4 {l0 l2 l3 l4 l5 : Value} {x : Int32} {S : List Value} {Z : gZ} {I : gI} {J : gJ} : g_at 80 4 [l0, .int x, l2, l3, l4, l5] S Z I J = g_at 80 5 [l0, .int x, l2, l3, l4, l5] (.int x :: S) Z I J := gq_iload e_80_4 rfl
theorem e_80_5 : g_Pg 80 5 = ga_callV 0 3 1 8 := (congrFun pg_80 5).trans rfl
theorem q_80_5 {L : List Value} {a0 : Int32} {a1 : Nat} {Z : gZ} {I : gI} {J : gJ} (h : (gKd Z a1).1 = 0) : g_at 80 5 L [.int a0, .ref a1] Z I J = (g_at 3 0 [.ref a1, .int a0] [] Z I J).bind (fun r => g_at 80 8 L (r.1.toList ++ []) r.2.1 r.2.2.1 r.2.2.2) := gq_callV e_80_5 rfl rfl h rfl rfl rfl rfl rfl
theorem e_80_8 : g_Pg 80 8 = ga_if (fun x => decide (¬ x = 0)) 14 11 := (congrFun pg_80 8).trans rfl
theorem q_80_8 {L : List Value} {x : Int32} {S : List Value} {Z : gZ} {I : gI} {J : gJ} : g_at 80 8 L (.int x :: S) Z I J = if ¬ x = 0 then g_at 80 14 L S Z I J else g_at 80 11 L S Z I J := gq_if e_80_8 rfl
theorem e_80_11 : g_Pg 80 11 = ga_push (.int (-2)) 13 := (congrFun pg_80 11).trans rfl
theorem q_80_11 {L : List Value} {S : List Value} {Z : gZ} {I : gI} {J : gJ} : g_at 80 11 L S Z I J = g_at 80 13 L (.int (-2) :: S) Z I J := gq_push e_80_11
theorem e_80_13 : g_Pg 80 13 = ga_iret := (congrFun pg_80 13).trans rfl
theorem q_80_13 {L : List Value} {x : Int32} {Z : gZ} {I : gI} {J : gJ} : g_at 80 13 L [.int x] Z I J = some (some (.int x), Z, I, J) := gq_iret e_80_13
theorem e_80_14 : g_Pg 80 14 = ga_iload 2 15 := (congrFun pg_80 14).trans rfl
theorem q_80_14 {l0 l1 l3 l4 l5 : Value} {x : Int32} {S : List Value} {Z : gZ} {I : gI} {J : gJ} : g_at 80 14 [l0, l1, .int x, l3, l4, l5] S Z I J = g_at 80 15 [l0, l1, .int x, l3, l4, l5] (.int x :: S) Z I J := gq_iload e_80_14 rfl
theorem e_80_15 : g_Pg 80 15 = ga_if (fun x => decide (x < 0)) 23 18 := (congrFun pg_80 15).trans rfl
theorem q_80_15 {L : List Value} {x : Int32} {S : List Value} {Z : gZ} {I : gI} {J : gJ} : g_at 80 15 L (.int x :: S) Z I J = if x < 0 then g_at 80 23 L S Z I J else g_at 80 18 L S Z I J := gq_if e_80_15 rfl
theorem e_80_18 : g_Pg 80 18 = ga_iload 2 19 := (congrFun pg_80 18).trans rfl
theorem q_80_18 {l0 l1 l3 l4 l5 : Value} {x : Int32} {S : List Value} {Z : gZ} {I : gI} {J : gJ} : g_at 80 18 [l0, l1, .int x, l3, l4, l5] S Z I J = g_at 80 19 [l0, l1, .int x, l3, l4, l5] (.int x :: S) Z I J := gq_iload e_80_18 rfl
theorem e_80_19 : g_Pg 80 19 = ga_push (.int 1) 20 := (congrFun pg_80 19).trans rfl
theorem q_80_19 {L : List Value} {S : List Value} {Z : gZ} {I : gI} {J : gJ} : g_at 80 19 L S Z I J = g_at 80 20 L (.int 1 :: S) Z I J := gq_push e_80_19
theorem e_80_20 : g_Pg 80 20 = ga_cmp (fun x y => decide (x ≤ y)) 26 23 := (congrFun pg_80 20).trans rfl
theorem q_80_20 {L : List Value} {x y : Int32} {S : List Value} {Z : gZ} {I : gI} {J : gJ} : g_at 80 20 L (.int y :: .int x :: S) Z I J = if x ≤ y then g_at 80 26 L S Z I J else g_at 80 23 L S Z I J := gq_cmp e_80_20 rfl
theorem e_80_23 : g_Pg 80 23 = ga_push (.int (-3)) 25 := (congrFun pg_80 23).trans rfl
theorem q_80_23 {L : List Value} {S : List Value} {Z : gZ} {I : gI} {J : gJ} : g_at 80 23 L S Z I J = g_at 80 25 L (.int (-3) :: S) Z I J := gq_push e_80_23
theorem e_80_25 : g_Pg 80 25 = ga_iret := (congrFun pg_80 25).trans rfl
theorem q_80_25 {L : List Value} {x : Int32} {Z : gZ} {I : gI} {J : gJ} : g_at 80 25 L [.int x] Z I J = some (some (.int x), Z, I, J) := gq_iret e_80_25
theorem e_80_26 : g_Pg 80 26 = ga_aload 0 27 := (congrFun pg_80 26).trans rfl
theorem q_80_26 {l1 l2 l3 l4 l5 : Value} {x : Nat} {S : List Value} {Z : gZ} {I : gI} {J : gJ} : g_at 80 26 [.ref x, l1, l2, l3, l4, l5] S Z I J = g_at 80 27 [.ref x, l1, l2, l3, l4, l5] (.ref x :: S) Z I J := gq_aload e_80_26 rfl
theorem e_80_27 : g_Pg 80 27 = ga_callV 6 75 0 30 := (congrFun pg_80 27).trans rfl
theorem q_80_27 {L : List Value} {a0 : Nat} {Z : gZ} {I : gI} {J : gJ} (h : (gKd Z a0).1 = 6) : g_at 80 27 L [.ref a0] Z I J = (g_at 75 0 [.ref a0] [] Z I J).bind (fun r => g_at 80 30 L (r.1.toList ++ []) r.2.1 r.2.2.1 r.2.2.2) := gq_callV e_80_27 rfl rfl h rfl rfl rfl rfl rfl
theorem e_80_30 : g_Pg 80 30 = ga_astore 3 31 := (congrFun pg_80 30).trans rfl
theorem q_80_30 {l0 l1 l2 l3 l4 l5 : Value} {x : Nat} {S : List Value} {Z : gZ} {I : gI} {J : gJ} (h : gN1 l2 = true) : g_at 80 30 [l0, l1, l2, l3, l4, l5] (.ref x :: S) Z I J = g_at 80 31 [l0, l1, l2, .ref x, l4, l5] S Z I J := gq_astore e_80_30 h rfl rfl
theorem e_80_31 : g_Pg 80 31 = ga_iload 2 32 := (congrFun pg_80 31).trans rfl
theorem q_80_31 {l0 l1 l3 l4 l5 : Value} {x : Int32} {S : List Value} {Z : gZ} {I : gI} {J : gJ} : g_at 80 31 [l0, l1, .int x, l3, l4, l5] S Z I J = g_at 80 32 [l0, l1, .int x, l3, l4, l5] (.int x :: S) Z I J := gq_iload e_80_31 rfl
theorem e_80_32 : g_Pg 80 32 = ga_push (.int 1) 33 := (congrFun pg_80 32).trans rfl
theorem q_80_32 {L : List Value} {S : List Value} {Z : gZ} {I : gI} {J : gJ} : g_at 80 32 L S Z I J = g_at 80 33 L (.int 1 :: S) Z I J := gq_push e_80_32
theorem e_80_33 : g_Pg 80 33 = ga_cmp (fun x y => decide (¬ x = y)) 57 36 := (congrFun pg_80 33).trans rfl
theorem q_80_33 {L : List Value} {x y : Int32} {S : List Value} {Z : gZ} {I : gI} {J : gJ} : g_at 80 33 L (.int y :: .int x :: S) Z I J = if ¬ x = y then g_at 80 57 L S Z I J else g_at 80 36 L S Z I J := gq_cmp e_80_33 rfl
theorem e_80_36 : g_Pg 80 36 = ga_aload 0 37 := (congrFun pg_80 36).trans rfl
theorem q_80_36 {l1 l2 l3 l4 l5 : Value} {x : Nat} {S : List Value} {Z : gZ} {I : gI} {J : gJ} : g_at 80 36 [.ref x, l1, l2, l3, l4, l5] S Z I J = g_at 80 37 [.ref x, l1, l2, l3, l4, l5] (.ref x :: S) Z I J := gq_aload e_80_36 rfl
theorem e_80_37 : g_Pg 80 37 = ga_getR 6 6 40 := (congrFun pg_80 37).trans rfl
theorem q_80_37 {L : List Value} {a : Nat} {S : List Value} {Z : gZ} {I : gI} {J : gJ} (h : (gKd Z a).1 = 6) (h1 : gRs Z a 6 = true) : g_at 80 37 L (.ref a :: S) Z I J = g_at 80 40 L (.ref (gRq Z a 6) :: S) Z I J := gq_getR e_80_37 h h1
theorem e_80_40 : g_Pg 80 40 = ga_aload 3 41 := (congrFun pg_80 40).trans rfl
theorem q_80_40 {l0 l1 l2 l4 l5 : Value} {x : Nat} {S : List Value} {Z : gZ} {I : gI} {J : gJ} : g_at 80 40 [l0, l1, l2, .ref x, l4, l5] S Z I J = g_at 80 41 [l0, l1, l2, .ref x, l4, l5] (.ref x :: S) Z I J := gq_aload e_80_40 rfl
theorem e_80_41 : g_Pg 80 41 = ga_iload 1 42 := (congrFun pg_80 41).trans rfl
theorem q_80_41 {l0 l2 l3 l4 l5 : Value} {x : Int32} {S : List Value} {Z : gZ} {I : gI} {J : gJ} : g_at 80 41 [l0, .int x, l2, l3, l4, l5] S Z I J = g_at 80 42 [l0, .int x, l2, l3, l4, l5] (.int x :: S) Z I J := gq_iload e_80_41 rfl
theorem e_80_42 : g_Pg 80 42 = ga_callV 1 12 1 45 := (congrFun pg_80 42).trans rfl
theorem q_80_42 {L : List Value} {a0 : Int32} {a1 : Nat} {r2 : Nat} {Z : gZ} {I : gI} {J : gJ} (h : (gKd Z a1).1 = 1) : g_at 80 42 L [.int a0, .ref a1, .ref r2] Z I J = (g_at 12 0 [.ref a1, .int a0, .null, .null] [] Z I J).bind (fun r => g_at 80 45 L (r.1.toList ++ [.ref r2]) r.2.1 r.2.2.1 r.2.2.2) := gq_callV e_80_42 rfl rfl h rfl rfl rfl rfl rfl
theorem e_80_45 : g_Pg 80 45 = ga_callV 3 33 1 48 := (congrFun pg_80 45).trans rfl
theorem q_80_45 {L : List Value} {a0 : Int32} {a1 : Nat} {Z : gZ} {I : gI} {J : gJ} (h : (gKd Z a1).1 = 3) : g_at 80 45 L [.int a0, .ref a1] Z I J = (g_at 33 0 [.ref a1, .int a0, .null] [] Z I J).bind (fun r => g_at 80 48 L (r.1.toList ++ []) r.2.1 r.2.2.1 r.2.2.2) := gq_callV e_80_45 rfl rfl h rfl rfl rfl rfl rfl
theorem e_80_48 : g_Pg 80 48 = ga_if (fun x => decide (x = 0)) 55 51 := (congrFun pg_80 48).trans rfl
theorem q_80_48 {L : List Value} {x : Int32} {S : List Value} {Z : gZ} {I : gI} {J : gJ} : g_at 80 48 L (.int x :: S) Z I J = if x = 0 then g_at 80 55 L S Z I J else g_at 80 51 L S Z I J := gq_if e_80_48 rfl
theorem e_80_51 : g_Pg 80 51 = ga_push (.int 1) 52 := (congrFun pg_80 51).trans rfl
theorem q_80_51 {L : List Value} {S : List Value} {Z : gZ} {I : gI} {J : gJ} : g_at 80 51 L S Z I J = g_at 80 52 L (.int 1 :: S) Z I J := gq_push e_80_51
theorem e_80_52 : g_Pg 80 52 = ga_goto 56 := (congrFun pg_80 52).trans rfl
theorem q_80_52 {L : List Value} {S : List Value} {Z : gZ} {I : gI} {J : gJ} : g_at 80 52 L S Z I J = g_at 80 56 L S Z I J := gq_goto e_80_52
theorem e_80_55 : g_Pg 80 55 = ga_push (.int 0) 56 := (congrFun pg_80 55).trans rfl
theorem q_80_55 {L : List Value} {S : List Value} {Z : gZ} {I : gI} {J : gJ} : g_at 80 55 L S Z I J = g_at 80 56 L (.int 0 :: S) Z I J := gq_push e_80_55
theorem e_80_56 : g_Pg 80 56 = ga_iret := (congrFun pg_80 56).trans rfl
theorem q_80_56 {L : List Value} {x : Int32} {Z : gZ} {I : gI} {J : gJ} : g_at 80 56 L [.int x] Z I J = some (some (.int x), Z, I, J) := gq_iret e_80_56
theorem e_80_57 : g_Pg 80 57 = ga_push (.int 0) 58 := (congrFun pg_80 57).trans rfl
theorem q_80_57 {L : List Value} {S : List Value} {Z : gZ} {I : gI} {J : gJ} : g_at 80 57 L S Z I J = g_at 80 58 L (.int 0 :: S) Z I J := gq_push e_80_57
theorem e_80_58 : g_Pg 80 58 = ga_istore 4 60 := (congrFun pg_80 58).trans rfl
theorem q_80_58 {l0 l1 l2 l3 l4 l5 : Value} {x : Int32} {S : List Value} {Z : gZ} {I : gI} {J : gJ} (h : gN1 l3 = true) : g_at 80 58 [l0, l1, l2, l3, l4, l5] (.int x :: S) Z I J = g_at 80 60 [l0, l1, l2, l3, .int x, l5] S Z I J := gq_istore e_80_58 h rfl rfl
theorem e_80_60 : g_Pg 80 60 = ga_push (.int 0) 61 := (congrFun pg_80 60).trans rfl
theorem q_80_60 {L : List Value} {S : List Value} {Z : gZ} {I : gI} {J : gJ} : g_at 80 60 L S Z I J = g_at 80 61 L (.int 0 :: S) Z I J := gq_push e_80_60
theorem e_80_61 : g_Pg 80 61 = ga_istore 5 63 := (congrFun pg_80 61).trans rfl
theorem q_80_61 {l0 l1 l2 l3 l4 l5 : Value} {x : Int32} {S : List Value} {Z : gZ} {I : gI} {J : gJ} (h : gN1 l4 = true) : g_at 80 61 [l0, l1, l2, l3, l4, l5] (.int x :: S) Z I J = g_at 80 63 [l0, l1, l2, l3, l4, .int x] S Z I J := gq_istore e_80_61 h rfl rfl
theorem e_80_63 : g_Pg 80 63 = ga_iload 5 65 := (congrFun pg_80 63).trans rfl
theorem q_80_63 {l0 l1 l2 l3 l4 : Value} {x : Int32} {S : List Value} {Z : gZ} {I : gI} {J : gJ} : g_at 80 63 [l0, l1, l2, l3, l4, .int x] S Z I J = g_at 80 65 [l0, l1, l2, l3, l4, .int x] (.int x :: S) Z I J := gq_iload e_80_63 rfl
theorem e_80_65 : g_Pg 80 65 = ga_aload 0 66 := (congrFun pg_80 65).trans rfl
theorem q_80_65 {l1 l2 l3 l4 l5 : Value} {x : Nat} {S : List Value} {Z : gZ} {I : gI} {J : gJ} : g_at 80 65 [.ref x, l1, l2, l3, l4, l5] S Z I J = g_at 80 66 [.ref x, l1, l2, l3, l4, l5] (.ref x :: S) Z I J := gq_aload e_80_65 rfl
theorem e_80_66 : g_Pg 80 66 = ga_getR 6 1 69 := (congrFun pg_80 66).trans rfl
theorem q_80_66 {L : List Value} {a : Nat} {S : List Value} {Z : gZ} {I : gI} {J : gJ} (h : (gKd Z a).1 = 6) (h1 : gRs Z a 1 = true) : g_at 80 66 L (.ref a :: S) Z I J = g_at 80 69 L (.ref (gRq Z a 1) :: S) Z I J := gq_getR e_80_66 h h1
theorem e_80_69 : g_Pg 80 69 = ga_getI 0 4 72 := (congrFun pg_80 69).trans rfl
theorem q_80_69 {L : List Value} {a : Nat} {S : List Value} {Z : gZ} {I : gI} {J : gJ} (h : (gKd Z a).1 = 0) : g_at 80 69 L (.ref a :: S) Z I J = g_at 80 72 L (.int (I a 4) :: S) Z I J := gq_getI e_80_69 h
theorem e_80_72 : g_Pg 80 72 = ga_cmp (fun x y => decide (y ≤ x)) 117 75 := (congrFun pg_80 72).trans rfl
theorem q_80_72 {L : List Value} {x y : Int32} {S : List Value} {Z : gZ} {I : gI} {J : gJ} : g_at 80 72 L (.int y :: .int x :: S) Z I J = if y ≤ x then g_at 80 117 L S Z I J else g_at 80 75 L S Z I J := gq_cmp e_80_72 rfl
theorem e_80_75 : g_Pg 80 75 = ga_aload 3 76 := (congrFun pg_80 75).trans rfl
theorem q_80_75 {l0 l1 l2 l4 l5 : Value} {x : Nat} {S : List Value} {Z : gZ} {I : gI} {J : gJ} : g_at 80 75 [l0, l1, l2, .ref x, l4, l5] S Z I J = g_at 80 76 [l0, l1, l2, .ref x, l4, l5] (.ref x :: S) Z I J := gq_aload e_80_75 rfl
theorem e_80_76 : g_Pg 80 76 = ga_iload 5 78 := (congrFun pg_80 76).trans rfl
theorem q_80_76 {l0 l1 l2 l3 l4 : Value} {x : Int32} {S : List Value} {Z : gZ} {I : gI} {J : gJ} : g_at 80 76 [l0, l1, l2, l3, l4, .int x] S Z I J = g_at 80 78 [l0, l1, l2, l3, l4, .int x] (.int x :: S) Z I J := gq_iload e_80_76 rfl
theorem e_80_78 : g_Pg 80 78 = ga_putI 1 4 81 := (congrFun pg_80 78).trans rfl
theorem q_80_78 {L : List Value} {a : Nat} {v : Int32} {S : List Value} {Z : gZ} {I : gI} {J : gJ} (h : (gKd Z a).1 = 1) : g_at 80 78 L (.int v :: .ref a :: S) Z I J = g_at 80 81 L S Z (va_up I a (va_up (I a) 4 v)) J := gq_putI e_80_78 h
theorem e_80_81 : g_Pg 80 81 = ga_iload 5 83 := (congrFun pg_80 81).trans rfl
theorem q_80_81 {l0 l1 l2 l3 l4 : Value} {x : Int32} {S : List Value} {Z : gZ} {I : gI} {J : gJ} : g_at 80 81 [l0, l1, l2, l3, l4, .int x] S Z I J = g_at 80 83 [l0, l1, l2, l3, l4, .int x] (.int x :: S) Z I J := gq_iload e_80_81 rfl
theorem e_80_83 : g_Pg 80 83 = ga_iload 1 84 := (congrFun pg_80 83).trans rfl
theorem q_80_83 {l0 l2 l3 l4 l5 : Value} {x : Int32} {S : List Value} {Z : gZ} {I : gI} {J : gJ} : g_at 80 83 [l0, .int x, l2, l3, l4, l5] S Z I J = g_at 80 84 [l0, .int x, l2, l3, l4, l5] (.int x :: S) Z I J := gq_iload e_80_83 rfl
theorem e_80_84 : g_Pg 80 84 = ga_cmp (fun x y => decide (x = y)) 111 87 := (congrFun pg_80 84).trans rfl
theorem q_80_84 {L : List Value} {x y : Int32} {S : List Value} {Z : gZ} {I : gI} {J : gJ} : g_at 80 84 L (.int y :: .int x :: S) Z I J = if x = y then g_at 80 111 L S Z I J else g_at 80 87 L S Z I J := gq_cmp e_80_84 rfl
theorem e_80_87 : g_Pg 80 87 = ga_aload 0 88 := (congrFun pg_80 87).trans rfl
theorem q_80_87 {l1 l2 l3 l4 l5 : Value} {x : Nat} {S : List Value} {Z : gZ} {I : gI} {J : gJ} : g_at 80 87 [.ref x, l1, l2, l3, l4, l5] S Z I J = g_at 80 88 [.ref x, l1, l2, l3, l4, l5] (.ref x :: S) Z I J := gq_aload e_80_87 rfl
theorem e_80_88 : g_Pg 80 88 = ga_getR 6 6 91 := (congrFun pg_80 88).trans rfl
theorem q_80_88 {L : List Value} {a : Nat} {S : List Value} {Z : gZ} {I : gI} {J : gJ} (h : (gKd Z a).1 = 6) (h1 : gRs Z a 6 = true) : g_at 80 88 L (.ref a :: S) Z I J = g_at 80 91 L (.ref (gRq Z a 6) :: S) Z I J := gq_getR e_80_88 h h1
theorem e_80_91 : g_Pg 80 91 = ga_aload 3 92 := (congrFun pg_80 91).trans rfl
theorem q_80_91 {l0 l1 l2 l4 l5 : Value} {x : Nat} {S : List Value} {Z : gZ} {I : gI} {J : gJ} : g_at 80 91 [l0, l1, l2, .ref x, l4, l5] S Z I J = g_at 80 92 [l0, l1, l2, .ref x, l4, l5] (.ref x :: S) Z I J := gq_aload e_80_91 rfl
theorem e_80_92 : g_Pg 80 92 = ga_iload 1 93 := (congrFun pg_80 92).trans rfl
theorem q_80_92 {l0 l2 l3 l4 l5 : Value} {x : Int32} {S : List Value} {Z : gZ} {I : gI} {J : gJ} : g_at 80 92 [l0, .int x, l2, l3, l4, l5] S Z I J = g_at 80 93 [l0, .int x, l2, l3, l4, l5] (.int x :: S) Z I J := gq_iload e_80_92 rfl
theorem e_80_93 : g_Pg 80 93 = ga_callV 1 12 1 96 := (congrFun pg_80 93).trans rfl
theorem q_80_93 {L : List Value} {a0 : Int32} {a1 : Nat} {r2 : Nat} {Z : gZ} {I : gI} {J : gJ} (h : (gKd Z a1).1 = 1) : g_at 80 93 L [.int a0, .ref a1, .ref r2] Z I J = (g_at 12 0 [.ref a1, .int a0, .null, .null] [] Z I J).bind (fun r => g_at 80 96 L (r.1.toList ++ [.ref r2]) r.2.1 r.2.2.1 r.2.2.2) := gq_callV e_80_93 rfl rfl h rfl rfl rfl rfl rfl
theorem e_80_96 : g_Pg 80 96 = ga_callV 3 33 1 99 := (congrFun pg_80 96).trans rfl
theorem q_80_96 {L : List Value} {a0 : Int32} {a1 : Nat} {Z : gZ} {I : gI} {J : gJ} (h : (gKd Z a1).1 = 3) : g_at 80 96 L [.int a0, .ref a1] Z I J = (g_at 33 0 [.ref a1, .int a0, .null] [] Z I J).bind (fun r => g_at 80 99 L (r.1.toList ++ []) r.2.1 r.2.2.1 r.2.2.2) := gq_callV e_80_96 rfl rfl h rfl rfl rfl rfl rfl
theorem e_80_99 : g_Pg 80 99 = ga_if (fun x => decide (x = 0)) 111 102 := (congrFun pg_80 99).trans rfl
theorem q_80_99 {L : List Value} {x : Int32} {S : List Value} {Z : gZ} {I : gI} {J : gJ} : g_at 80 99 L (.int x :: S) Z I J = if x = 0 then g_at 80 111 L S Z I J else g_at 80 102 L S Z I J := gq_if e_80_99 rfl
theorem e_80_102 : g_Pg 80 102 = ga_iload 4 104 := (congrFun pg_80 102).trans rfl
theorem q_80_102 {l0 l1 l2 l3 l5 : Value} {x : Int32} {S : List Value} {Z : gZ} {I : gI} {J : gJ} : g_at 80 102 [l0, l1, l2, l3, .int x, l5] S Z I J = g_at 80 104 [l0, l1, l2, l3, .int x, l5] (.int x :: S) Z I J := gq_iload e_80_102 rfl
theorem e_80_104 : g_Pg 80 104 = ga_push (.int 1) 105 := (congrFun pg_80 104).trans rfl
theorem q_80_104 {L : List Value} {S : List Value} {Z : gZ} {I : gI} {J : gJ} : g_at 80 104 L S Z I J = g_at 80 105 L (.int 1 :: S) Z I J := gq_push e_80_104
theorem e_80_105 : g_Pg 80 105 = ga_iload 5 107 := (congrFun pg_80 105).trans rfl
theorem q_80_105 {l0 l1 l2 l3 l4 : Value} {x : Int32} {S : List Value} {Z : gZ} {I : gI} {J : gJ} : g_at 80 105 [l0, l1, l2, l3, l4, .int x] S Z I J = g_at 80 107 [l0, l1, l2, l3, l4, .int x] (.int x :: S) Z I J := gq_iload e_80_105 rfl
theorem e_80_107 : g_Pg 80 107 = ga_bin (fun x y => x <<< (y &&& 31)) 108 := (congrFun pg_80 107).trans rfl
theorem q_80_107 {L : List Value} {x y : Int32} {S : List Value} {Z : gZ} {I : gI} {J : gJ} : g_at 80 107 L (.int y :: .int x :: S) Z I J = g_at 80 108 L (.int (x <<< (y &&& 31)) :: S) Z I J := gq_bin e_80_107
theorem e_80_108 : g_Pg 80 108 = ga_bin (fun x y => x ||| y) 109 := (congrFun pg_80 108).trans rfl
theorem q_80_108 {L : List Value} {x y : Int32} {S : List Value} {Z : gZ} {I : gI} {J : gJ} : g_at 80 108 L (.int y :: .int x :: S) Z I J = g_at 80 109 L (.int (x ||| y) :: S) Z I J := gq_bin e_80_108
theorem e_80_109 : g_Pg 80 109 = ga_istore 4 111 := (congrFun pg_80 109).trans rfl
theorem q_80_109 {l0 l1 l2 l3 l4 l5 : Value} {x : Int32} {S : List Value} {Z : gZ} {I : gI} {J : gJ} (h : gN1 l3 = true) : g_at 80 109 [l0, l1, l2, l3, l4, l5] (.int x :: S) Z I J = g_at 80 111 [l0, l1, l2, l3, .int x, l5] S Z I J := gq_istore e_80_109 h rfl rfl
theorem e_80_111 : g_Pg 80 111 = ga_iinc 5 1 114 := (congrFun pg_80 111).trans rfl
theorem q_80_111 {l0 l1 l2 l3 l4 : Value} {x : Int32} {S : List Value} {Z : gZ} {I : gI} {J : gJ} (h : gN1 l4 = true) : g_at 80 111 [l0, l1, l2, l3, l4, .int x] S Z I J = g_at 80 114 [l0, l1, l2, l3, l4, .int (x + 1)] S Z I J := gq_iinc e_80_111 rfl h rfl
theorem e_80_114 : g_Pg 80 114 = ga_goto 63 := (congrFun pg_80 114).trans rfl
theorem q_80_114 {L : List Value} {S : List Value} {Z : gZ} {I : gI} {J : gJ} : g_at 80 114 L S Z I J = g_at 80 63 L S Z I J := gq_goto e_80_114
theorem e_80_117 : g_Pg 80 117 = ga_iload 4 119 := (congrFun pg_80 117).trans rfl
theorem q_80_117 {l0 l1 l2 l3 l5 : Value} {x : Int32} {S : List Value} {Z : gZ} {I : gI} {J : gJ} : g_at 80 117 [l0, l1, l2, l3, .int x, l5] S Z I J = g_at 80 119 [l0, l1, l2, l3, .int x, l5] (.int x :: S) Z I J := gq_iload e_80_117 rfl
theorem e_80_119 : g_Pg 80 119 = ga_iret := (congrFun pg_80 119).trans rfl
theorem q_80_119 {L : List Value} {x : Int32} {Z : gZ} {I : gI} {J : gJ} : g_at 80 119 L [.int x] Z I J = some (some (.int x), Z, I, J) := gq_iret e_80_119
theorem e_81_0 : g_Pg 81 0 = ga_iload 1 1 := (congrFun pg_81 0).trans rfl
theorem q_81_0 {l0 : Value} {x : Int32} {S : List Value} {Z : gZ} {I : gI} {J : gJ} : g_at 81 0 [l0, .int x] S Z I J = g_at 81 1 [l0, .int x] (.int x :: S) Z I J := gq_iload e_81_0 rfl
theorem e_81_1 : g_Pg 81 1 = ga_switch 0 [44, 52, 60, 68, 76, 84, 92] 100 := (congrFun pg_81 1).trans rfl
theorem q_81_1 {L : List Value} {x : Int32} {S : List Value} {Z : gZ} {I : gI} {J : gJ} : g_at 81 1 L (.int x :: S) Z I J = if x = 0 then g_at 81 44 L S Z I J else if x = 1 then g_at 81 52 L S Z I J else if x = 2 then g_at 81 60 L S Z I J else if x = 3 then g_at 81 68 L S Z I J else if x = 4 then g_at 81 76 L S Z I J else if x = 5 then g_at 81 84 L S Z I J else if x = 6 then g_at 81 92 L S Z I J else g_at 81 100 L S Z I J := (gq_switch e_81_1).trans (gsw_cons (F := fun q => g_at 81 q L S Z I J) (lo := 0) (lo' := 1) (v := 0) rfl rfl (gsw_cons (F := fun q => g_at 81 q L S Z I J) (lo := 1) (lo' := 2) (v := 1) rfl rfl (gsw_cons (F := fun q => g_at 81 q L S Z I J) (lo := 2) (lo' := 3) (v := 2) rfl rfl (gsw_cons (F := fun q => g_at 81 q L S Z I J) (lo := 3) (lo' := 4) (v := 3) rfl rfl (gsw_cons (F := fun q => g_at 81 q L S Z I J) (lo := 4) (lo' := 5) (v := 4) rfl rfl (gsw_cons (F := fun q => g_at 81 q L S Z I J) (lo := 5) (lo' := 6) (v := 5) rfl rfl (gsw_cons (F := fun q => g_at 81 q L S Z I J) (lo := 6) (lo' := 7) (v := 6) rfl rfl rfl)))))))
theorem e_81_44 : g_Pg 81 44 = ga_aload 0 45 := (congrFun pg_81 44).trans rfl
theorem q_81_44 {l1 : Value} {x : Nat} {S : List Value} {Z : gZ} {I : gI} {J : gJ} : g_at 81 44 [.ref x, l1] S Z I J = g_at 81 45 [.ref x, l1] (.ref x :: S) Z I J := gq_aload e_81_44 rfl
theorem e_81_45 : g_Pg 81 45 = ga_getR 6 1 48 := (congrFun pg_81 45).trans rfl
theorem q_81_45 {L : List Value} {a : Nat} {S : List Value} {Z : gZ} {I : gI} {J : gJ} (h : (gKd Z a).1 = 6) (h1 : gRs Z a 1 = true) : g_at 81 45 L (.ref a :: S) Z I J = g_at 81 48 L (.ref (gRq Z a 1) :: S) Z I J := gq_getR e_81_45 h h1
theorem e_81_48 : g_Pg 81 48 = ga_getI 0 4 51 := (congrFun pg_81 48).trans rfl
theorem q_81_48 {L : List Value} {a : Nat} {S : List Value} {Z : gZ} {I : gI} {J : gJ} (h : (gKd Z a).1 = 0) : g_at 81 48 L (.ref a :: S) Z I J = g_at 81 51 L (.int (I a 4) :: S) Z I J := gq_getI e_81_48 h
theorem e_81_51 : g_Pg 81 51 = ga_iret := (congrFun pg_81 51).trans rfl
theorem q_81_51 {L : List Value} {x : Int32} {Z : gZ} {I : gI} {J : gJ} : g_at 81 51 L [.int x] Z I J = some (some (.int x), Z, I, J) := gq_iret e_81_51
theorem e_81_52 : g_Pg 81 52 = ga_aload 0 53 := (congrFun pg_81 52).trans rfl
theorem q_81_52 {l1 : Value} {x : Nat} {S : List Value} {Z : gZ} {I : gI} {J : gJ} : g_at 81 52 [.ref x, l1] S Z I J = g_at 81 53 [.ref x, l1] (.ref x :: S) Z I J := gq_aload e_81_52 rfl
theorem e_81_53 : g_Pg 81 53 = ga_getR 6 3 56 := (congrFun pg_81 53).trans rfl
theorem q_81_53 {L : List Value} {a : Nat} {S : List Value} {Z : gZ} {I : gI} {J : gJ} (h : (gKd Z a).1 = 6) (h1 : gRs Z a 3 = true) : g_at 81 53 L (.ref a :: S) Z I J = g_at 81 56 L (.ref (gRq Z a 3) :: S) Z I J := gq_getR e_81_53 h h1
theorem e_81_56 : g_Pg 81 56 = ga_getI 2 4 59 := (congrFun pg_81 56).trans rfl
theorem q_81_56 {L : List Value} {a : Nat} {S : List Value} {Z : gZ} {I : gI} {J : gJ} (h : (gKd Z a).1 = 2) : g_at 81 56 L (.ref a :: S) Z I J = g_at 81 59 L (.int (I a 4) :: S) Z I J := gq_getI e_81_56 h
theorem e_81_59 : g_Pg 81 59 = ga_iret := (congrFun pg_81 59).trans rfl
theorem q_81_59 {L : List Value} {x : Int32} {Z : gZ} {I : gI} {J : gJ} : g_at 81 59 L [.int x] Z I J = some (some (.int x), Z, I, J) := gq_iret e_81_59
theorem e_81_60 : g_Pg 81 60 = ga_aload 0 61 := (congrFun pg_81 60).trans rfl
theorem q_81_60 {l1 : Value} {x : Nat} {S : List Value} {Z : gZ} {I : gI} {J : gJ} : g_at 81 60 [.ref x, l1] S Z I J = g_at 81 61 [.ref x, l1] (.ref x :: S) Z I J := gq_aload e_81_60 rfl
theorem e_81_61 : g_Pg 81 61 = ga_getR 6 3 64 := (congrFun pg_81 61).trans rfl
theorem q_81_61 {L : List Value} {a : Nat} {S : List Value} {Z : gZ} {I : gI} {J : gJ} (h : (gKd Z a).1 = 6) (h1 : gRs Z a 3 = true) : g_at 81 61 L (.ref a :: S) Z I J = g_at 81 64 L (.ref (gRq Z a 3) :: S) Z I J := gq_getR e_81_61 h h1
theorem e_81_64 : g_Pg 81 64 = ga_getI 2 3 67 := (congrFun pg_81 64).trans rfl
theorem q_81_64 {L : List Value} {a : Nat} {S : List Value} {Z : gZ} {I : gI} {J : gJ} (h : (gKd Z a).1 = 2) : g_at 81 64 L (.ref a :: S) Z I J = g_at 81 67 L (.int (I a 3) :: S) Z I J := gq_getI e_81_64 h
theorem e_81_67 : g_Pg 81 67 = ga_iret := (congrFun pg_81 67).trans rfl
theorem q_81_67 {L : List Value} {x : Int32} {Z : gZ} {I : gI} {J : gJ} : g_at 81 67 L [.int x] Z I J = some (some (.int x), Z, I, J) := gq_iret e_81_67
theorem e_81_68 : g_Pg 81 68 = ga_aload 0 69 := (congrFun pg_81 68).trans rfl
theorem q_81_68 {l1 : Value} {x : Nat} {S : List Value} {Z : gZ} {I : gI} {J : gJ} : g_at 81 68 [.ref x, l1] S Z I J = g_at 81 69 [.ref x, l1] (.ref x :: S) Z I J := gq_aload e_81_68 rfl
theorem e_81_69 : g_Pg 81 69 = ga_getR 6 3 72 := (congrFun pg_81 69).trans rfl
theorem q_81_69 {L : List Value} {a : Nat} {S : List Value} {Z : gZ} {I : gI} {J : gJ} (h : (gKd Z a).1 = 6) (h1 : gRs Z a 3 = true) : g_at 81 69 L (.ref a :: S) Z I J = g_at 81 72 L (.ref (gRq Z a 3) :: S) Z I J := gq_getR e_81_69 h h1
theorem e_81_72 : g_Pg 81 72 = ga_callV 2 29 0 75 := (congrFun pg_81 72).trans rfl
theorem q_81_72 {L : List Value} {a0 : Nat} {Z : gZ} {I : gI} {J : gJ} (h : (gKd Z a0).1 = 2) : g_at 81 72 L [.ref a0] Z I J = (g_at 29 0 [.ref a0, .null, .null] [] Z I J).bind (fun r => g_at 81 75 L (r.1.toList ++ []) r.2.1 r.2.2.1 r.2.2.2) := gq_callV e_81_72 rfl rfl h rfl rfl rfl rfl rfl
theorem e_81_75 : g_Pg 81 75 = ga_iret := (congrFun pg_81 75).trans rfl
theorem q_81_75 {L : List Value} {x : Int32} {Z : gZ} {I : gI} {J : gJ} : g_at 81 75 L [.int x] Z I J = some (some (.int x), Z, I, J) := gq_iret e_81_75
theorem e_81_76 : g_Pg 81 76 = ga_aload 0 77 := (congrFun pg_81 76).trans rfl
theorem q_81_76 {l1 : Value} {x : Nat} {S : List Value} {Z : gZ} {I : gI} {J : gJ} : g_at 81 76 [.ref x, l1] S Z I J = g_at 81 77 [.ref x, l1] (.ref x :: S) Z I J := gq_aload e_81_76 rfl
theorem e_81_77 : g_Pg 81 77 = ga_getR 6 3 80 := (congrFun pg_81 77).trans rfl
theorem q_81_77 {L : List Value} {a : Nat} {S : List Value} {Z : gZ} {I : gI} {J : gJ} (h : (gKd Z a).1 = 6) (h1 : gRs Z a 3 = true) : g_at 81 77 L (.ref a :: S) Z I J = g_at 81 80 L (.ref (gRq Z a 3) :: S) Z I J := gq_getR e_81_77 h h1
theorem e_81_80 : g_Pg 81 80 = ga_callV 2 30 0 83 := (congrFun pg_81 80).trans rfl
theorem q_81_80 {L : List Value} {a0 : Nat} {Z : gZ} {I : gI} {J : gJ} (h : (gKd Z a0).1 = 2) : g_at 81 80 L [.ref a0] Z I J = (g_at 30 0 [.ref a0, .null, .null] [] Z I J).bind (fun r => g_at 81 83 L (r.1.toList ++ []) r.2.1 r.2.2.1 r.2.2.2) := gq_callV e_81_80 rfl rfl h rfl rfl rfl rfl rfl
theorem e_81_83 : g_Pg 81 83 = ga_iret := (congrFun pg_81 83).trans rfl
theorem q_81_83 {L : List Value} {x : Int32} {Z : gZ} {I : gI} {J : gJ} : g_at 81 83 L [.int x] Z I J = some (some (.int x), Z, I, J) := gq_iret e_81_83
theorem e_81_84 : g_Pg 81 84 = ga_aload 0 85 := (congrFun pg_81 84).trans rfl
theorem q_81_84 {l1 : Value} {x : Nat} {S : List Value} {Z : gZ} {I : gI} {J : gJ} : g_at 81 84 [.ref x, l1] S Z I J = g_at 81 85 [.ref x, l1] (.ref x :: S) Z I J := gq_aload e_81_84 rfl
theorem e_81_85 : g_Pg 81 85 = ga_getR 6 6 88 := (congrFun pg_81 85).trans rfl
theorem q_81_85 {L : List Value} {a : Nat} {S : List Value} {Z : gZ} {I : gI} {J : gJ} (h : (gKd Z a).1 = 6) (h1 : gRs Z a 6 = true) : g_at 81 85 L (.ref a :: S) Z I J = g_at 81 88 L (.ref (gRq Z a 6) :: S) Z I J := gq_getR e_81_85 h h1
theorem e_81_88 : g_Pg 81 88 = ga_getI 3 2 91 := (congrFun pg_81 88).trans rfl
theorem q_81_88 {L : List Value} {a : Nat} {S : List Value} {Z : gZ} {I : gI} {J : gJ} (h : (gKd Z a).1 = 3) : g_at 81 88 L (.ref a :: S) Z I J = g_at 81 91 L (.int (I a 2) :: S) Z I J := gq_getI e_81_88 h
theorem e_81_91 : g_Pg 81 91 = ga_iret := (congrFun pg_81 91).trans rfl
theorem q_81_91 {L : List Value} {x : Int32} {Z : gZ} {I : gI} {J : gJ} : g_at 81 91 L [.int x] Z I J = some (some (.int x), Z, I, J) := gq_iret e_81_91
theorem e_81_92 : g_Pg 81 92 = ga_aload 0 93 := (congrFun pg_81 92).trans rfl
theorem q_81_92 {l1 : Value} {x : Nat} {S : List Value} {Z : gZ} {I : gI} {J : gJ} : g_at 81 92 [.ref x, l1] S Z I J = g_at 81 93 [.ref x, l1] (.ref x :: S) Z I J := gq_aload e_81_92 rfl
theorem e_81_93 : g_Pg 81 93 = ga_getR 6 0 96 := (congrFun pg_81 93).trans rfl
theorem q_81_93 {L : List Value} {a : Nat} {S : List Value} {Z : gZ} {I : gI} {J : gJ} (h : (gKd Z a).1 = 6) (h1 : gRs Z a 0 = true) : g_at 81 93 L (.ref a :: S) Z I J = g_at 81 96 L (.ref (gRq Z a 0) :: S) Z I J := gq_getR e_81_93 h h1
theorem e_81_96 : g_Pg 81 96 = ga_getI 4 1 99 := (congrFun pg_81 96).trans rfl
theorem q_81_96 {L : List Value} {a : Nat} {S : List Value} {Z : gZ} {I : gI} {J : gJ} (h : (gKd Z a).1 = 4) : g_at 81 96 L (.ref a :: S) Z I J = g_at 81 99 L (.int (I a 1) :: S) Z I J := gq_getI e_81_96 h
theorem e_81_99 : g_Pg 81 99 = ga_iret := (congrFun pg_81 99).trans rfl
theorem q_81_99 {L : List Value} {x : Int32} {Z : gZ} {I : gI} {J : gJ} : g_at 81 99 L [.int x] Z I J = some (some (.int x), Z, I, J) := gq_iret e_81_99
theorem e_81_100 : g_Pg 81 100 = ga_push (.int (-3)) 102 := (congrFun pg_81 100).trans rfl
theorem q_81_100 {L : List Value} {S : List Value} {Z : gZ} {I : gI} {J : gJ} : g_at 81 100 L S Z I J = g_at 81 102 L (.int (-3) :: S) Z I J := gq_push e_81_100
theorem e_81_102 : g_Pg 81 102 = ga_iret := (congrFun pg_81 102).trans rfl
theorem q_81_102 {L : List Value} {x : Int32} {Z : gZ} {I : gI} {J : gJ} : g_at 81 102 L [.int x] Z I J = some (some (.int x), Z, I, J) := gq_iret e_81_102
