theorem s_34_0 {K : gC} : gOk K g_Ms mi_34 0 (ga_aload 0 1) := gs_aload_n (by decide +kernel : decode mi_34.2.1 0 = .ok (.aload_n 0, 1)) rfl rfl
theorem s_34_1 {K : gC} : gOk K g_Ms mi_34 1 (ga_oinit 4) := gs_oinit gw_66 gw_59 gw_objc (by decide) (by decide) (by decide +kernel : decode mi_34.2.1 1 = .ok (.invokespecial 3, 3)) rfl
theorem s_34_4 {K : gC} : gOk K g_Ms mi_34 4 (ga_aload 0 5) := gs_aload_n (by decide +kernel : decode mi_34.2.1 4 = .ok (.aload_n 0, 1)) rfl rfl
theorem s_34_5 {K : gC} : gOk K g_Ms mi_34 5 (ga_push (.int 200) 8) := gs_sipush (by decide +kernel : decode mi_34.2.1 5 = .ok (.sipush 200, 3)) (by decide) rfl
theorem s_34_8 {K : gC} : gOk K g_Ms mi_34 8 (ga_newa 8 10) := gs_newaI gw_88 (by decide +kernel : decode mi_34.2.1 8 = .ok (.newarray .int, 2)) rfl
theorem s_34_10 {K : gC} : gOk K g_Ms mi_34 10 (ga_putR 4 0 13) := gs_putR gcls_4 (by decide) (by decide) (fun _ => ⟨rfl, rfl⟩) rfl rfl rfl gw_67 (by decide +kernel : decode mi_34.2.1 10 = .ok (.putfield 9, 3)) rfl
theorem s_34_13 {K : gC} : gOk K g_Ms mi_34 13 (ga_vret) := gs_vret (by decide +kernel : decode mi_34.2.1 13 = .ok (.return_, 1)) rfl
theorem ok_34 {K : gC} : ∀ e ∈ t_34, gOk K g_Ms mi_34 e.1 e.2 := by
  unfold t_34
  simp only [List.forall_mem_cons, List.not_mem_nil, false_implies, implies_true, and_true]
  exact ⟨s_34_0, s_34_1, s_34_4, s_34_5, s_34_8, s_34_10, s_34_13⟩
theorem s_35_0 {K : gC} : gOk K g_Ms mi_35 0 (ga_aload 0 1) := gs_aload_n (by decide +kernel : decode mi_35.2.1 0 = .ok (.aload_n 0, 1)) rfl rfl
theorem s_35_1 {K : gC} : gOk K g_Ms mi_35 1 (ga_getI 4 1 4) := gs_getI gcls_4 (by decide) (by decide) gw_68 (by decide +kernel : decode mi_35.2.1 1 = .ok (.getfield 15, 3)) rfl
theorem s_35_4 {K : gC} : gOk K g_Ms mi_35 4 (ga_push (.int 200) 7) := gs_sipush (by decide +kernel : decode mi_35.2.1 4 = .ok (.sipush 200, 3)) (by decide) rfl
theorem s_35_7 {K : gC} : gOk K g_Ms mi_35 7 (ga_cmp (fun x y => decide (y ≤ x)) 30 10) := gs_cmp_ge (by decide +kernel : decode mi_35.2.1 7 = .ok (.if_icmp .ge 23, 3)) (by decide) rfl
theorem s_35_10 {K : gC} : gOk K g_Ms mi_35 10 (ga_aload 0 11) := gs_aload_n (by decide +kernel : decode mi_35.2.1 10 = .ok (.aload_n 0, 1)) rfl rfl
theorem s_35_11 {K : gC} : gOk K g_Ms mi_35 11 (ga_getR 4 0 14) := gs_getR gcls_4 (by decide) (by decide) gw_67 (by decide +kernel : decode mi_35.2.1 11 = .ok (.getfield 9, 3)) rfl
theorem s_35_14 {K : gC} : gOk K g_Ms mi_35 14 (ga_aload 0 15) := gs_aload_n (by decide +kernel : decode mi_35.2.1 14 = .ok (.aload_n 0, 1)) rfl rfl
theorem s_35_15 {K : gC} : gOk K g_Ms mi_35 15 (ga_getI 4 1 18) := gs_getI gcls_4 (by decide) (by decide) gw_68 (by decide +kernel : decode mi_35.2.1 15 = .ok (.getfield 15, 3)) rfl
theorem s_35_18 {K : gC} : gOk K g_Ms mi_35 18 (ga_iload 1 19) := gs_iload_n (by decide +kernel : decode mi_35.2.1 18 = .ok (.iload_n 1, 1)) rfl rfl
theorem s_35_19 {K : gC} : gOk K g_Ms mi_35 19 (ga_iast 20) := gs_iast (by decide +kernel : decode mi_35.2.1 19 = .ok (.iastore, 1)) rfl
theorem s_35_20 {K : gC} : gOk K g_Ms mi_35 20 (ga_aload 0 21) := gs_aload_n (by decide +kernel : decode mi_35.2.1 20 = .ok (.aload_n 0, 1)) rfl rfl
theorem s_35_21 {K : gC} : gOk K g_Ms mi_35 21 (ga_dup 22) := gs_dup (by decide +kernel : decode mi_35.2.1 21 = .ok (.dup, 1)) rfl
theorem s_35_22 {K : gC} : gOk K g_Ms mi_35 22 (ga_getI 4 1 25) := gs_getI gcls_4 (by decide) (by decide) gw_68 (by decide +kernel : decode mi_35.2.1 22 = .ok (.getfield 15, 3)) rfl
theorem s_35_25 {K : gC} : gOk K g_Ms mi_35 25 (ga_push (.int 1) 26) := gs_iconst (by decide +kernel : decode mi_35.2.1 25 = .ok (.iconst 1, 1)) (by decide) rfl
theorem s_35_26 {K : gC} : gOk K g_Ms mi_35 26 (ga_bin (fun x y => x + y) 27) := gs_iadd (by decide +kernel : decode mi_35.2.1 26 = .ok (.iadd, 1)) rfl
theorem s_35_27 {K : gC} : gOk K g_Ms mi_35 27 (ga_putI 4 1 30) := gs_putI gcls_4 (by decide) (by decide) rfl rfl gw_68 (by decide +kernel : decode mi_35.2.1 27 = .ok (.putfield 15, 3)) rfl
theorem s_35_30 {K : gC} : gOk K g_Ms mi_35 30 (ga_vret) := gs_vret (by decide +kernel : decode mi_35.2.1 30 = .ok (.return_, 1)) rfl
theorem ok_35 {K : gC} : ∀ e ∈ t_35, gOk K g_Ms mi_35 e.1 e.2 := by
  unfold t_35
  simp only [List.forall_mem_cons, List.not_mem_nil, false_implies, implies_true, and_true]
  exact ⟨s_35_0, s_35_1, s_35_4, s_35_7, s_35_10, s_35_11, s_35_14, s_35_15, s_35_18, s_35_19, s_35_20, s_35_21, s_35_22, s_35_25, s_35_26, s_35_27, s_35_30⟩
theorem s_36_0 {K : gC} : gOk K g_Ms mi_36 0 (ga_aload 0 1) := gs_aload_n (by decide +kernel : decode mi_36.2.1 0 = .ok (.aload_n 0, 1)) rfl rfl
theorem s_36_1 {K : gC} : gOk K g_Ms mi_36 1 (ga_push (.int 0) 2) := gs_iconst (by decide +kernel : decode mi_36.2.1 1 = .ok (.iconst 0, 1)) (by decide) rfl
theorem s_36_2 {K : gC} : gOk K g_Ms mi_36 2 (ga_putI 4 4 5) := gs_putI gcls_4 (by decide) (by decide) rfl rfl gw_73 (by decide +kernel : decode mi_36.2.1 2 = .ok (.putfield 19, 3)) rfl
theorem s_36_5 {K : gC} : gOk K g_Ms mi_36 5 (ga_aload 0 6) := gs_aload_n (by decide +kernel : decode mi_36.2.1 5 = .ok (.aload_n 0, 1)) rfl rfl
theorem s_36_6 {K : gC} : gOk K g_Ms mi_36 6 (ga_push (.int 0) 7) := gs_iconst (by decide +kernel : decode mi_36.2.1 6 = .ok (.iconst 0, 1)) (by decide) rfl
theorem s_36_7 {K : gC} : gOk K g_Ms mi_36 7 (ga_putI 4 2 10) := gs_putI gcls_4 (by decide) (by decide) rfl rfl gw_70 (by decide +kernel : decode mi_36.2.1 7 = .ok (.putfield 22, 3)) rfl
theorem s_36_10 {K : gC} : gOk K g_Ms mi_36 10 (ga_aload 0 11) := gs_aload_n (by decide +kernel : decode mi_36.2.1 10 = .ok (.aload_n 0, 1)) rfl rfl
theorem s_36_11 {K : gC} : gOk K g_Ms mi_36 11 (ga_getI 4 2 14) := gs_getI gcls_4 (by decide) (by decide) gw_70 (by decide +kernel : decode mi_36.2.1 11 = .ok (.getfield 22, 3)) rfl
theorem s_36_14 {K : gC} : gOk K g_Ms mi_36 14 (ga_push (.int 12) 16) := gs_bipush (by decide +kernel : decode mi_36.2.1 14 = .ok (.bipush 12, 2)) (by decide) rfl
theorem s_36_16 {K : gC} : gOk K g_Ms mi_36 16 (ga_cmp (fun x y => decide (y ≤ x)) 77 19) := gs_cmp_ge (by decide +kernel : decode mi_36.2.1 16 = .ok (.if_icmp .ge 61, 3)) (by decide) rfl
theorem s_36_19 {K : gC} : gOk K g_Ms mi_36 19 (ga_aload 0 20) := gs_aload_n (by decide +kernel : decode mi_36.2.1 19 = .ok (.aload_n 0, 1)) rfl rfl
theorem s_36_20 {K : gC} : gOk K g_Ms mi_36 20 (ga_aload 1 21) := gs_aload_n (by decide +kernel : decode mi_36.2.1 20 = .ok (.aload_n 1, 1)) rfl rfl
theorem s_36_21 {K : gC} : gOk K g_Ms mi_36 21 (ga_callV 4 37 1 24) := gs_callV gcls_4 (gce_X4_readLine (by decide) (by decide)) gw_295 gw_297 gw_0 (by decide +kernel : decode mi_36.2.1 21 = .ok (.invokevirtual 25, 3)) rfl
theorem s_36_24 {K : gC} : gOk K g_Ms mi_36 24 (ga_if (fun x => decide (¬ x = 0)) 32 27) := gs_if_ne (by decide +kernel : decode mi_36.2.1 24 = .ok (.ifCond .ne 8, 3)) (by decide) rfl
theorem s_36_27 {K : gC} : gOk K g_Ms mi_36 27 (ga_aload 0 28) := gs_aload_n (by decide +kernel : decode mi_36.2.1 27 = .ok (.aload_n 0, 1)) rfl rfl
theorem s_36_28 {K : gC} : gOk K g_Ms mi_36 28 (ga_getI 4 3 31) := gs_getI gcls_4 (by decide) (by decide) gw_72 (by decide +kernel : decode mi_36.2.1 28 = .ok (.getfield 29, 3)) rfl
theorem s_36_31 {K : gC} : gOk K g_Ms mi_36 31 (ga_iret) := gs_iret (by decide +kernel : decode mi_36.2.1 31 = .ok (.ireturn, 1)) rfl
theorem s_36_32 {K : gC} : gOk K g_Ms mi_36 32 (ga_aload 0 33) := gs_aload_n (by decide +kernel : decode mi_36.2.1 32 = .ok (.aload_n 0, 1)) rfl rfl
theorem s_36_33 {K : gC} : gOk K g_Ms mi_36 33 (ga_dup 34) := gs_dup (by decide +kernel : decode mi_36.2.1 33 = .ok (.dup, 1)) rfl
theorem s_36_34 {K : gC} : gOk K g_Ms mi_36 34 (ga_getI 4 2 37) := gs_getI gcls_4 (by decide) (by decide) gw_70 (by decide +kernel : decode mi_36.2.1 34 = .ok (.getfield 22, 3)) rfl
theorem s_36_37 {K : gC} : gOk K g_Ms mi_36 37 (ga_push (.int 1) 38) := gs_iconst (by decide +kernel : decode mi_36.2.1 37 = .ok (.iconst 1, 1)) (by decide) rfl
theorem s_36_38 {K : gC} : gOk K g_Ms mi_36 38 (ga_bin (fun x y => x + y) 39) := gs_iadd (by decide +kernel : decode mi_36.2.1 38 = .ok (.iadd, 1)) rfl
theorem s_36_39 {K : gC} : gOk K g_Ms mi_36 39 (ga_putI 4 2 42) := gs_putI gcls_4 (by decide) (by decide) rfl rfl gw_70 (by decide +kernel : decode mi_36.2.1 39 = .ok (.putfield 22, 3)) rfl
theorem s_36_42 {K : gC} : gOk K g_Ms mi_36 42 (ga_aload 0 43) := gs_aload_n (by decide +kernel : decode mi_36.2.1 42 = .ok (.aload_n 0, 1)) rfl rfl
theorem s_36_43 {K : gC} : gOk K g_Ms mi_36 43 (ga_callV 4 42 0 46) := gs_callV gcls_4 (gce_X4_nextToken (by decide) (by decide)) gw_299 gw_301 gw_1 (by decide +kernel : decode mi_36.2.1 43 = .ok (.invokevirtual 32, 3)) rfl
theorem s_36_46 {K : gC} : gOk K g_Ms mi_36 46 (ga_aload 0 47) := gs_aload_n (by decide +kernel : decode mi_36.2.1 46 = .ok (.aload_n 0, 1)) rfl rfl
theorem s_36_47 {K : gC} : gOk K g_Ms mi_36 47 (ga_getI 4 3 50) := gs_getI gcls_4 (by decide) (by decide) gw_72 (by decide +kernel : decode mi_36.2.1 47 = .ok (.getfield 29, 3)) rfl
theorem s_36_50 {K : gC} : gOk K g_Ms mi_36 50 (ga_aload 0 51) := gs_aload_n (by decide +kernel : decode mi_36.2.1 50 = .ok (.aload_n 0, 1)) rfl rfl
theorem s_36_51 {K : gC} : gOk K g_Ms mi_36 51 (ga_getI 4 1 54) := gs_getI gcls_4 (by decide) (by decide) gw_68 (by decide +kernel : decode mi_36.2.1 51 = .ok (.getfield 15, 3)) rfl
theorem s_36_54 {K : gC} : gOk K g_Ms mi_36 54 (ga_cmp (fun x y => decide (¬ x = y)) 59 57) := gs_cmp_ne (by decide +kernel : decode mi_36.2.1 54 = .ok (.if_icmp .ne 5, 3)) (by decide) rfl
theorem s_36_57 {K : gC} : gOk K g_Ms mi_36 57 (ga_push (.int (-1)) 58) := gs_iconst (by decide +kernel : decode mi_36.2.1 57 = .ok (.iconst (-1), 1)) (by decide) rfl
theorem s_36_58 {K : gC} : gOk K g_Ms mi_36 58 (ga_iret) := gs_iret (by decide +kernel : decode mi_36.2.1 58 = .ok (.ireturn, 1)) rfl
theorem s_36_59 {K : gC} : gOk K g_Ms mi_36 59 (ga_aload 0 60) := gs_aload_n (by decide +kernel : decode mi_36.2.1 59 = .ok (.aload_n 0, 1)) rfl rfl
theorem s_36_60 {K : gC} : gOk K g_Ms mi_36 60 (ga_aload 0 61) := gs_aload_n (by decide +kernel : decode mi_36.2.1 60 = .ok (.aload_n 0, 1)) rfl rfl
theorem s_36_61 {K : gC} : gOk K g_Ms mi_36 61 (ga_getI 4 3 64) := gs_getI gcls_4 (by decide) (by decide) gw_72 (by decide +kernel : decode mi_36.2.1 61 = .ok (.getfield 29, 3)) rfl
theorem s_36_64 {K : gC} : gOk K g_Ms mi_36 64 (ga_callV 4 49 1 67) := gs_callV gcls_4 (gce_X4_byteAt (by decide) (by decide)) gw_303 gw_305 gw_2 (by decide +kernel : decode mi_36.2.1 64 = .ok (.invokevirtual 35, 3)) rfl
theorem s_36_67 {K : gC} : gOk K g_Ms mi_36 67 (ga_push (.int 59) 69) := gs_bipush (by decide +kernel : decode mi_36.2.1 67 = .ok (.bipush 59, 2)) (by decide) rfl
theorem s_36_69 {K : gC} : gOk K g_Ms mi_36 69 (ga_cmp (fun x y => decide (x = y)) 10 72) := gs_cmp_eq (by decide +kernel : decode mi_36.2.1 69 = .ok (.if_icmp .eq (-59), 3)) (by decide) rfl
theorem s_36_72 {K : gC} : gOk K g_Ms mi_36 72 (ga_aload 0 73) := gs_aload_n (by decide +kernel : decode mi_36.2.1 72 = .ok (.aload_n 0, 1)) rfl rfl
theorem s_36_73 {K : gC} : gOk K g_Ms mi_36 73 (ga_getI 4 3 76) := gs_getI gcls_4 (by decide) (by decide) gw_72 (by decide +kernel : decode mi_36.2.1 73 = .ok (.getfield 29, 3)) rfl
theorem s_36_76 {K : gC} : gOk K g_Ms mi_36 76 (ga_iret) := gs_iret (by decide +kernel : decode mi_36.2.1 76 = .ok (.ireturn, 1)) rfl
theorem s_36_77 {K : gC} : gOk K g_Ms mi_36 77 (ga_aload 0 78) := gs_aload_n (by decide +kernel : decode mi_36.2.1 77 = .ok (.aload_n 0, 1)) rfl rfl
theorem s_36_78 {K : gC} : gOk K g_Ms mi_36 78 (ga_getI 4 3 81) := gs_getI gcls_4 (by decide) (by decide) gw_72 (by decide +kernel : decode mi_36.2.1 78 = .ok (.getfield 29, 3)) rfl
theorem s_36_81 {K : gC} : gOk K g_Ms mi_36 81 (ga_iret) := gs_iret (by decide +kernel : decode mi_36.2.1 81 = .ok (.ireturn, 1)) rfl
theorem ok_36 {K : gC} : ∀ e ∈ t_36, gOk K g_Ms mi_36 e.1 e.2 := by
  unfold t_36
  simp only [List.forall_mem_cons, List.not_mem_nil, false_implies, implies_true, and_true]
  exact ⟨s_36_0, s_36_1, s_36_2, s_36_5, s_36_6, s_36_7, s_36_10, s_36_11, s_36_14, s_36_16, s_36_19, s_36_20, s_36_21, s_36_24, s_36_27, s_36_28, s_36_31, s_36_32, s_36_33, s_36_34, s_36_37, s_36_38, s_36_39, s_36_42, s_36_43, s_36_46, s_36_47, s_36_50, s_36_51, s_36_54, s_36_57, s_36_58, s_36_59, s_36_60, s_36_61, s_36_64, s_36_67, s_36_69, s_36_72, s_36_73, s_36_76, s_36_77, s_36_78, s_36_81⟩
theorem s_37_0 {K : gC} : gOk K g_Ms mi_37 0 (ga_aload 0 1) := gs_aload_n (by decide +kernel : decode mi_37.2.1 0 = .ok (.aload_n 0, 1)) rfl rfl
theorem s_37_1 {K : gC} : gOk K g_Ms mi_37 1 (ga_callV 4 42 0 4) := gs_callV gcls_4 (gce_X4_nextToken (by decide) (by decide)) gw_299 gw_301 gw_1 (by decide +kernel : decode mi_37.2.1 1 = .ok (.invokevirtual 32, 3)) rfl
theorem s_37_4 {K : gC} : gOk K g_Ms mi_37 4 (ga_aload 0 5) := gs_aload_n (by decide +kernel : decode mi_37.2.1 4 = .ok (.aload_n 0, 1)) rfl rfl
theorem s_37_5 {K : gC} : gOk K g_Ms mi_37 5 (ga_callV 4 44 0 8) := gs_callV gcls_4 (gce_X4_wordHere (by decide) (by decide)) gw_313 gw_315 gw_3 (by decide +kernel : decode mi_37.2.1 5 = .ok (.invokevirtual 39, 3)) rfl
theorem s_37_8 {K : gC} : gOk K g_Ms mi_37 8 (ga_istore 2 9) := gs_istore_n (by decide +kernel : decode mi_37.2.1 8 = .ok (.istore_n 2, 1)) rfl rfl
theorem s_37_9 {K : gC} : gOk K g_Ms mi_37 9 (ga_iload 2 10) := gs_iload_n (by decide +kernel : decode mi_37.2.1 9 = .ok (.iload_n 2, 1)) rfl rfl
theorem s_37_10 {K : gC} : gOk K g_Ms mi_37 10 (ga_push (.int (-1)) 11) := gs_iconst (by decide +kernel : decode mi_37.2.1 10 = .ok (.iconst (-1), 1)) (by decide) rfl
theorem s_37_11 {K : gC} : gOk K g_Ms mi_37 11 (ga_cmp (fun x y => decide (¬ x = y)) 16 14) := gs_cmp_ne (by decide +kernel : decode mi_37.2.1 11 = .ok (.if_icmp .ne 5, 3)) (by decide) rfl
theorem s_37_14 {K : gC} : gOk K g_Ms mi_37 14 (ga_push (.int 0) 15) := gs_iconst (by decide +kernel : decode mi_37.2.1 14 = .ok (.iconst 0, 1)) (by decide) rfl
theorem s_37_15 {K : gC} : gOk K g_Ms mi_37 15 (ga_zret) := gs_zret (by decide +kernel : decode mi_37.2.1 15 = .ok (.ireturn, 1)) rfl rfl rfl
theorem s_37_16 {K : gC} : gOk K g_Ms mi_37 16 (ga_iload 2 17) := gs_iload_n (by decide +kernel : decode mi_37.2.1 16 = .ok (.iload_n 2, 1)) rfl rfl
theorem s_37_17 {K : gC} : gOk K g_Ms mi_37 17 (ga_push (.int 7) 19) := gs_bipush (by decide +kernel : decode mi_37.2.1 17 = .ok (.bipush 7, 2)) (by decide) rfl
theorem s_37_19 {K : gC} : gOk K g_Ms mi_37 19 (ga_cmp (fun x y => decide (x < y)) 32 22) := gs_cmp_lt (by decide +kernel : decode mi_37.2.1 19 = .ok (.if_icmp .lt 13, 3)) (by decide) rfl
theorem s_37_22 {K : gC} : gOk K g_Ms mi_37 22 (ga_aload 1 23) := gs_aload_n (by decide +kernel : decode mi_37.2.1 22 = .ok (.aload_n 1, 1)) rfl rfl
theorem s_37_23 {K : gC} : gOk K g_Ms mi_37 23 (ga_iload 2 24) := gs_iload_n (by decide +kernel : decode mi_37.2.1 23 = .ok (.iload_n 2, 1)) rfl rfl
theorem s_37_24 {K : gC} : gOk K g_Ms mi_37 24 (ga_push (.int 7) 26) := gs_bipush (by decide +kernel : decode mi_37.2.1 24 = .ok (.bipush 7, 2)) (by decide) rfl
theorem s_37_26 {K : gC} : gOk K g_Ms mi_37 26 (ga_bin (fun x y => x - y) 27) := gs_isub (by decide +kernel : decode mi_37.2.1 26 = .ok (.isub, 1)) rfl
theorem s_37_27 {K : gC} : gOk K g_Ms mi_37 27 (ga_putI 0 5 30) := gs_putI gcls_0 (by decide) (by decide) rfl rfl gw_125 (by decide +kernel : decode mi_37.2.1 27 = .ok (.putfield 43, 3)) rfl
theorem s_37_30 {K : gC} : gOk K g_Ms mi_37 30 (ga_push (.int 1) 31) := gs_iconst (by decide +kernel : decode mi_37.2.1 30 = .ok (.iconst 1, 1)) (by decide) rfl
theorem s_37_31 {K : gC} : gOk K g_Ms mi_37 31 (ga_zret) := gs_zret (by decide +kernel : decode mi_37.2.1 31 = .ok (.ireturn, 1)) rfl rfl rfl
theorem s_37_32 {K : gC} : gOk K g_Ms mi_37 32 (ga_iload 2 33) := gs_iload_n (by decide +kernel : decode mi_37.2.1 32 = .ok (.iload_n 2, 1)) rfl rfl
theorem s_37_33 {K : gC} : gOk K g_Ms mi_37 33 (ga_push (.int 3) 34) := gs_iconst (by decide +kernel : decode mi_37.2.1 33 = .ok (.iconst 3, 1)) (by decide) rfl
theorem s_37_34 {K : gC} : gOk K g_Ms mi_37 34 (ga_cmp (fun x y => decide (x < y)) 46 37) := gs_cmp_lt (by decide +kernel : decode mi_37.2.1 34 = .ok (.if_icmp .lt 12, 3)) (by decide) rfl
theorem s_37_37 {K : gC} : gOk K g_Ms mi_37 37 (ga_aload 0 38) := gs_aload_n (by decide +kernel : decode mi_37.2.1 37 = .ok (.aload_n 0, 1)) rfl rfl
theorem s_37_38 {K : gC} : gOk K g_Ms mi_37 38 (ga_aload 1 39) := gs_aload_n (by decide +kernel : decode mi_37.2.1 38 = .ok (.aload_n 1, 1)) rfl rfl
theorem s_37_39 {K : gC} : gOk K g_Ms mi_37 39 (ga_iload 2 40) := gs_iload_n (by decide +kernel : decode mi_37.2.1 39 = .ok (.iload_n 2, 1)) rfl rfl
theorem s_37_40 {K : gC} : gOk K g_Ms mi_37 40 (ga_push (.int 3) 41) := gs_iconst (by decide +kernel : decode mi_37.2.1 40 = .ok (.iconst 3, 1)) (by decide) rfl
theorem s_37_41 {K : gC} : gOk K g_Ms mi_37 41 (ga_bin (fun x y => x - y) 42) := gs_isub (by decide +kernel : decode mi_37.2.1 41 = .ok (.isub, 1)) rfl
theorem s_37_42 {K : gC} : gOk K g_Ms mi_37 42 (ga_callV 4 41 2 45) := gs_callV gcls_4 (gce_X4_readMonk (by decide) (by decide)) gw_382 gw_384 gw_5 (by decide +kernel : decode mi_37.2.1 42 = .ok (.invokevirtual 48, 3)) rfl
theorem s_37_45 {K : gC} : gOk K g_Ms mi_37 45 (ga_zret) := gs_zret (by decide +kernel : decode mi_37.2.1 45 = .ok (.ireturn, 1)) rfl rfl rfl
theorem s_37_46 {K : gC} : gOk K g_Ms mi_37 46 (ga_iload 2 47) := gs_iload_n (by decide +kernel : decode mi_37.2.1 46 = .ok (.iload_n 2, 1)) rfl rfl
theorem s_37_47 {K : gC} : gOk K g_Ms mi_37 47 (ga_switch 0 [72, 78, 84] 90) := gs_switch (by decide +kernel : decode mi_37.2.1 47 = .ok (.tableswitch 43 0 2 #[25, 31, 37], 25)) (by decide) (by decide) (by decide)
theorem s_37_72 {K : gC} : gOk K g_Ms mi_37 72 (ga_aload 0 73) := gs_aload_n (by decide +kernel : decode mi_37.2.1 72 = .ok (.aload_n 0, 1)) rfl rfl
theorem s_37_73 {K : gC} : gOk K g_Ms mi_37 73 (ga_aload 1 74) := gs_aload_n (by decide +kernel : decode mi_37.2.1 73 = .ok (.aload_n 1, 1)) rfl rfl
theorem s_37_74 {K : gC} : gOk K g_Ms mi_37 74 (ga_callV 4 38 1 77) := gs_callV gcls_4 (gce_X4_readCloister (by decide) (by decide)) gw_390 gw_392 gw_7 (by decide +kernel : decode mi_37.2.1 74 = .ok (.invokevirtual 52, 3)) rfl
theorem s_37_77 {K : gC} : gOk K g_Ms mi_37 77 (ga_zret) := gs_zret (by decide +kernel : decode mi_37.2.1 77 = .ok (.ireturn, 1)) rfl rfl rfl
theorem s_37_78 {K : gC} : gOk K g_Ms mi_37 78 (ga_aload 0 79) := gs_aload_n (by decide +kernel : decode mi_37.2.1 78 = .ok (.aload_n 0, 1)) rfl rfl
theorem s_37_79 {K : gC} : gOk K g_Ms mi_37 79 (ga_aload 1 80) := gs_aload_n (by decide +kernel : decode mi_37.2.1 79 = .ok (.aload_n 1, 1)) rfl rfl
theorem s_37_80 {K : gC} : gOk K g_Ms mi_37 80 (ga_callV 4 39 1 83) := gs_callV gcls_4 (gce_X4_readHears (by decide) (by decide)) gw_395 gw_397 gw_8 (by decide +kernel : decode mi_37.2.1 80 = .ok (.invokevirtual 55, 3)) rfl
theorem s_37_83 {K : gC} : gOk K g_Ms mi_37 83 (ga_zret) := gs_zret (by decide +kernel : decode mi_37.2.1 83 = .ok (.ireturn, 1)) rfl rfl rfl
theorem s_37_84 {K : gC} : gOk K g_Ms mi_37 84 (ga_aload 0 85) := gs_aload_n (by decide +kernel : decode mi_37.2.1 84 = .ok (.aload_n 0, 1)) rfl rfl
theorem s_37_85 {K : gC} : gOk K g_Ms mi_37 85 (ga_aload 1 86) := gs_aload_n (by decide +kernel : decode mi_37.2.1 85 = .ok (.aload_n 1, 1)) rfl rfl
theorem s_37_86 {K : gC} : gOk K g_Ms mi_37 86 (ga_callV 4 40 1 89) := gs_callV gcls_4 (gce_X4_readAlone (by decide) (by decide)) gw_399 gw_401 gw_9 (by decide +kernel : decode mi_37.2.1 86 = .ok (.invokevirtual 58, 3)) rfl
theorem s_37_89 {K : gC} : gOk K g_Ms mi_37 89 (ga_zret) := gs_zret (by decide +kernel : decode mi_37.2.1 89 = .ok (.ireturn, 1)) rfl rfl rfl
theorem s_37_90 {K : gC} : gOk K g_Ms mi_37 90 (ga_push (.int 0) 91) := gs_iconst (by decide +kernel : decode mi_37.2.1 90 = .ok (.iconst 0, 1)) (by decide) rfl
theorem s_37_91 {K : gC} : gOk K g_Ms mi_37 91 (ga_zret) := gs_zret (by decide +kernel : decode mi_37.2.1 91 = .ok (.ireturn, 1)) rfl rfl rfl
theorem ok_37 {K : gC} : ∀ e ∈ t_37, gOk K g_Ms mi_37 e.1 e.2 := by
  unfold t_37
  simp only [List.forall_mem_cons, List.not_mem_nil, false_implies, implies_true, and_true]
  exact ⟨s_37_0, s_37_1, s_37_4, s_37_5, s_37_8, s_37_9, s_37_10, s_37_11, s_37_14, s_37_15, s_37_16, s_37_17, s_37_19, s_37_22, s_37_23, s_37_24, s_37_26, s_37_27, s_37_30, s_37_31, s_37_32, s_37_33, s_37_34, s_37_37, s_37_38, s_37_39, s_37_40, s_37_41, s_37_42, s_37_45, s_37_46, s_37_47, s_37_72, s_37_73, s_37_74, s_37_77, s_37_78, s_37_79, s_37_80, s_37_83, s_37_84, s_37_85, s_37_86, s_37_89, s_37_90, s_37_91⟩
theorem s_38_0 {K : gC} : gOk K g_Ms mi_38 0 (ga_aload 0 1) := gs_aload_n (by decide +kernel : decode mi_38.2.1 0 = .ok (.aload_n 0, 1)) rfl rfl
theorem s_38_1 {K : gC} : gOk K g_Ms mi_38 1 (ga_push (.int 2) 2) := gs_iconst (by decide +kernel : decode mi_38.2.1 1 = .ok (.iconst 2, 1)) (by decide) rfl
theorem s_38_2 {K : gC} : gOk K g_Ms mi_38 2 (ga_push (.int 10) 4) := gs_bipush (by decide +kernel : decode mi_38.2.1 2 = .ok (.bipush 10, 2)) (by decide) rfl
theorem s_38_4 {K : gC} : gOk K g_Ms mi_38 4 (ga_callV 4 43 2 7) := gs_callV gcls_4 (gce_X4_nextNumber (by decide) (by decide)) gw_386 gw_388 gw_6 (by decide +kernel : decode mi_38.2.1 4 = .ok (.invokevirtual 61, 3)) rfl
theorem s_38_7 {K : gC} : gOk K g_Ms mi_38 7 (ga_if (fun x => decide (¬ x = 0)) 12 10) := gs_if_ne (by decide +kernel : decode mi_38.2.1 7 = .ok (.ifCond .ne 5, 3)) (by decide) rfl
theorem s_38_10 {K : gC} : gOk K g_Ms mi_38 10 (ga_push (.int 0) 11) := gs_iconst (by decide +kernel : decode mi_38.2.1 10 = .ok (.iconst 0, 1)) (by decide) rfl
theorem s_38_11 {K : gC} : gOk K g_Ms mi_38 11 (ga_zret) := gs_zret (by decide +kernel : decode mi_38.2.1 11 = .ok (.ireturn, 1)) rfl rfl rfl
theorem s_38_12 {K : gC} : gOk K g_Ms mi_38 12 (ga_aload 1 13) := gs_aload_n (by decide +kernel : decode mi_38.2.1 12 = .ok (.aload_n 1, 1)) rfl rfl
theorem s_38_13 {K : gC} : gOk K g_Ms mi_38 13 (ga_aload 0 14) := gs_aload_n (by decide +kernel : decode mi_38.2.1 13 = .ok (.aload_n 0, 1)) rfl rfl
theorem s_38_14 {K : gC} : gOk K g_Ms mi_38 14 (ga_getI 4 5 17) := gs_getI gcls_4 (by decide) (by decide) gw_74 (by decide +kernel : decode mi_38.2.1 14 = .ok (.getfield 65, 3)) rfl
theorem s_38_17 {K : gC} : gOk K g_Ms mi_38 17 (ga_callV 0 1 1 20) := gs_callV gcls_0 (gce_X0_found (by decide) (by decide)) gw_394 gw_96 gw_97 (by decide +kernel : decode mi_38.2.1 17 = .ok (.invokevirtual 68, 3)) rfl
theorem s_38_20 {K : gC} : gOk K g_Ms mi_38 20 (ga_push (.int 1) 21) := gs_iconst (by decide +kernel : decode mi_38.2.1 20 = .ok (.iconst 1, 1)) (by decide) rfl
theorem s_38_21 {K : gC} : gOk K g_Ms mi_38 21 (ga_zret) := gs_zret (by decide +kernel : decode mi_38.2.1 21 = .ok (.ireturn, 1)) rfl rfl rfl
theorem ok_38 {K : gC} : ∀ e ∈ t_38, gOk K g_Ms mi_38 e.1 e.2 := by
  unfold t_38
  simp only [List.forall_mem_cons, List.not_mem_nil, false_implies, implies_true, and_true]
  exact ⟨s_38_0, s_38_1, s_38_2, s_38_4, s_38_7, s_38_10, s_38_11, s_38_12, s_38_13, s_38_14, s_38_17, s_38_20, s_38_21⟩
theorem s_39_0 {K : gC} : gOk K g_Ms mi_39 0 (ga_aload 0 1) := gs_aload_n (by decide +kernel : decode mi_39.2.1 0 = .ok (.aload_n 0, 1)) rfl rfl
theorem s_39_1 {K : gC} : gOk K g_Ms mi_39 1 (ga_push (.int 0) 2) := gs_iconst (by decide +kernel : decode mi_39.2.1 1 = .ok (.iconst 0, 1)) (by decide) rfl
theorem s_39_2 {K : gC} : gOk K g_Ms mi_39 2 (ga_aload 1 3) := gs_aload_n (by decide +kernel : decode mi_39.2.1 2 = .ok (.aload_n 1, 1)) rfl rfl
theorem s_39_3 {K : gC} : gOk K g_Ms mi_39 3 (ga_getI 0 4 6) := gs_getI gcls_0 (by decide) (by decide) gw_122 (by decide +kernel : decode mi_39.2.1 3 = .ok (.getfield 72, 3)) rfl
theorem s_39_6 {K : gC} : gOk K g_Ms mi_39 6 (ga_push (.int 1) 7) := gs_iconst (by decide +kernel : decode mi_39.2.1 6 = .ok (.iconst 1, 1)) (by decide) rfl
theorem s_39_7 {K : gC} : gOk K g_Ms mi_39 7 (ga_bin (fun x y => x - y) 8) := gs_isub (by decide +kernel : decode mi_39.2.1 7 = .ok (.isub, 1)) rfl
theorem s_39_8 {K : gC} : gOk K g_Ms mi_39 8 (ga_callV 4 43 2 11) := gs_callV gcls_4 (gce_X4_nextNumber (by decide) (by decide)) gw_386 gw_388 gw_6 (by decide +kernel : decode mi_39.2.1 8 = .ok (.invokevirtual 61, 3)) rfl
theorem s_39_11 {K : gC} : gOk K g_Ms mi_39 11 (ga_if (fun x => decide (¬ x = 0)) 16 14) := gs_if_ne (by decide +kernel : decode mi_39.2.1 11 = .ok (.ifCond .ne 5, 3)) (by decide) rfl
theorem s_39_14 {K : gC} : gOk K g_Ms mi_39 14 (ga_push (.int 0) 15) := gs_iconst (by decide +kernel : decode mi_39.2.1 14 = .ok (.iconst 0, 1)) (by decide) rfl
theorem s_39_15 {K : gC} : gOk K g_Ms mi_39 15 (ga_zret) := gs_zret (by decide +kernel : decode mi_39.2.1 15 = .ok (.ireturn, 1)) rfl rfl rfl
theorem s_39_16 {K : gC} : gOk K g_Ms mi_39 16 (ga_aload 0 17) := gs_aload_n (by decide +kernel : decode mi_39.2.1 16 = .ok (.aload_n 0, 1)) rfl rfl
theorem s_39_17 {K : gC} : gOk K g_Ms mi_39 17 (ga_getI 4 5 20) := gs_getI gcls_4 (by decide) (by decide) gw_74 (by decide +kernel : decode mi_39.2.1 17 = .ok (.getfield 65, 3)) rfl
theorem s_39_20 {K : gC} : gOk K g_Ms mi_39 20 (ga_istore 2 21) := gs_istore_n (by decide +kernel : decode mi_39.2.1 20 = .ok (.istore_n 2, 1)) rfl rfl
theorem s_39_21 {K : gC} : gOk K g_Ms mi_39 21 (ga_aload 0 22) := gs_aload_n (by decide +kernel : decode mi_39.2.1 21 = .ok (.aload_n 0, 1)) rfl rfl
theorem s_39_22 {K : gC} : gOk K g_Ms mi_39 22 (ga_push (.int 0) 23) := gs_iconst (by decide +kernel : decode mi_39.2.1 22 = .ok (.iconst 0, 1)) (by decide) rfl
theorem s_39_23 {K : gC} : gOk K g_Ms mi_39 23 (ga_aload 1 24) := gs_aload_n (by decide +kernel : decode mi_39.2.1 23 = .ok (.aload_n 1, 1)) rfl rfl
theorem s_39_24 {K : gC} : gOk K g_Ms mi_39 24 (ga_getI 0 4 27) := gs_getI gcls_0 (by decide) (by decide) gw_122 (by decide +kernel : decode mi_39.2.1 24 = .ok (.getfield 72, 3)) rfl
theorem s_39_27 {K : gC} : gOk K g_Ms mi_39 27 (ga_push (.int 1) 28) := gs_iconst (by decide +kernel : decode mi_39.2.1 27 = .ok (.iconst 1, 1)) (by decide) rfl
theorem s_39_28 {K : gC} : gOk K g_Ms mi_39 28 (ga_bin (fun x y => x - y) 29) := gs_isub (by decide +kernel : decode mi_39.2.1 28 = .ok (.isub, 1)) rfl
theorem s_39_29 {K : gC} : gOk K g_Ms mi_39 29 (ga_callV 4 43 2 32) := gs_callV gcls_4 (gce_X4_nextNumber (by decide) (by decide)) gw_386 gw_388 gw_6 (by decide +kernel : decode mi_39.2.1 29 = .ok (.invokevirtual 61, 3)) rfl
theorem s_39_32 {K : gC} : gOk K g_Ms mi_39 32 (ga_if (fun x => decide (x = 0)) 43 35) := gs_if_eq (by decide +kernel : decode mi_39.2.1 32 = .ok (.ifCond .eq 11, 3)) (by decide) rfl
theorem s_39_35 {K : gC} : gOk K g_Ms mi_39 35 (ga_aload 0 36) := gs_aload_n (by decide +kernel : decode mi_39.2.1 35 = .ok (.aload_n 0, 1)) rfl rfl
theorem s_39_36 {K : gC} : gOk K g_Ms mi_39 36 (ga_getI 4 5 39) := gs_getI gcls_4 (by decide) (by decide) gw_74 (by decide +kernel : decode mi_39.2.1 36 = .ok (.getfield 65, 3)) rfl
theorem s_39_39 {K : gC} : gOk K g_Ms mi_39 39 (ga_iload 2 40) := gs_iload_n (by decide +kernel : decode mi_39.2.1 39 = .ok (.iload_n 2, 1)) rfl rfl
theorem s_39_40 {K : gC} : gOk K g_Ms mi_39 40 (ga_cmp (fun x y => decide (¬ x = y)) 45 43) := gs_cmp_ne (by decide +kernel : decode mi_39.2.1 40 = .ok (.if_icmp .ne 5, 3)) (by decide) rfl
theorem s_39_43 {K : gC} : gOk K g_Ms mi_39 43 (ga_push (.int 0) 44) := gs_iconst (by decide +kernel : decode mi_39.2.1 43 = .ok (.iconst 0, 1)) (by decide) rfl
theorem s_39_44 {K : gC} : gOk K g_Ms mi_39 44 (ga_zret) := gs_zret (by decide +kernel : decode mi_39.2.1 44 = .ok (.ireturn, 1)) rfl rfl rfl
theorem s_39_45 {K : gC} : gOk K g_Ms mi_39 45 (ga_aload 0 46) := gs_aload_n (by decide +kernel : decode mi_39.2.1 45 = .ok (.aload_n 0, 1)) rfl rfl
theorem s_39_46 {K : gC} : gOk K g_Ms mi_39 46 (ga_getI 4 5 49) := gs_getI gcls_4 (by decide) (by decide) gw_74 (by decide +kernel : decode mi_39.2.1 46 = .ok (.getfield 65, 3)) rfl
theorem s_39_49 {K : gC} : gOk K g_Ms mi_39 49 (ga_istore 3 50) := gs_istore_n (by decide +kernel : decode mi_39.2.1 49 = .ok (.istore_n 3, 1)) rfl rfl
theorem s_39_50 {K : gC} : gOk K g_Ms mi_39 50 (ga_aload 0 51) := gs_aload_n (by decide +kernel : decode mi_39.2.1 50 = .ok (.aload_n 0, 1)) rfl rfl
theorem s_39_51 {K : gC} : gOk K g_Ms mi_39 51 (ga_push (.int 1) 52) := gs_iconst (by decide +kernel : decode mi_39.2.1 51 = .ok (.iconst 1, 1)) (by decide) rfl
theorem s_39_52 {K : gC} : gOk K g_Ms mi_39 52 (ga_push (.int 9) 54) := gs_bipush (by decide +kernel : decode mi_39.2.1 52 = .ok (.bipush 9, 2)) (by decide) rfl
theorem s_39_54 {K : gC} : gOk K g_Ms mi_39 54 (ga_callV 4 43 2 57) := gs_callV gcls_4 (gce_X4_nextNumber (by decide) (by decide)) gw_386 gw_388 gw_6 (by decide +kernel : decode mi_39.2.1 54 = .ok (.invokevirtual 61, 3)) rfl
theorem s_39_57 {K : gC} : gOk K g_Ms mi_39 57 (ga_if (fun x => decide (¬ x = 0)) 62 60) := gs_if_ne (by decide +kernel : decode mi_39.2.1 57 = .ok (.ifCond .ne 5, 3)) (by decide) rfl
theorem s_39_60 {K : gC} : gOk K g_Ms mi_39 60 (ga_push (.int 0) 61) := gs_iconst (by decide +kernel : decode mi_39.2.1 60 = .ok (.iconst 0, 1)) (by decide) rfl
theorem s_39_61 {K : gC} : gOk K g_Ms mi_39 61 (ga_zret) := gs_zret (by decide +kernel : decode mi_39.2.1 61 = .ok (.ireturn, 1)) rfl rfl rfl
theorem s_39_62 {K : gC} : gOk K g_Ms mi_39 62 (ga_aload 1 63) := gs_aload_n (by decide +kernel : decode mi_39.2.1 62 = .ok (.aload_n 1, 1)) rfl rfl
theorem s_39_63 {K : gC} : gOk K g_Ms mi_39 63 (ga_getR 0 0 66) := gs_getR gcls_0 (by decide) (by decide) gw_106 (by decide +kernel : decode mi_39.2.1 63 = .ok (.getfield 75, 3)) rfl
theorem s_39_66 {K : gC} : gOk K g_Ms mi_39 66 (ga_iload 2 67) := gs_iload_n (by decide +kernel : decode mi_39.2.1 66 = .ok (.iload_n 2, 1)) rfl rfl
theorem s_39_67 {K : gC} : gOk K g_Ms mi_39 67 (ga_iload 3 68) := gs_iload_n (by decide +kernel : decode mi_39.2.1 67 = .ok (.iload_n 3, 1)) rfl rfl
theorem s_39_68 {K : gC} : gOk K g_Ms mi_39 68 (ga_iast 69) := gs_iast (by decide +kernel : decode mi_39.2.1 68 = .ok (.iastore, 1)) rfl
theorem s_39_69 {K : gC} : gOk K g_Ms mi_39 69 (ga_aload 1 70) := gs_aload_n (by decide +kernel : decode mi_39.2.1 69 = .ok (.aload_n 1, 1)) rfl rfl
theorem s_39_70 {K : gC} : gOk K g_Ms mi_39 70 (ga_getR 0 1 73) := gs_getR gcls_0 (by decide) (by decide) gw_109 (by decide +kernel : decode mi_39.2.1 70 = .ok (.getfield 78, 3)) rfl
theorem s_39_73 {K : gC} : gOk K g_Ms mi_39 73 (ga_iload 2 74) := gs_iload_n (by decide +kernel : decode mi_39.2.1 73 = .ok (.iload_n 2, 1)) rfl rfl
theorem s_39_74 {K : gC} : gOk K g_Ms mi_39 74 (ga_aload 0 75) := gs_aload_n (by decide +kernel : decode mi_39.2.1 74 = .ok (.aload_n 0, 1)) rfl rfl
theorem s_39_75 {K : gC} : gOk K g_Ms mi_39 75 (ga_getI 4 5 78) := gs_getI gcls_4 (by decide) (by decide) gw_74 (by decide +kernel : decode mi_39.2.1 75 = .ok (.getfield 65, 3)) rfl
theorem s_39_78 {K : gC} : gOk K g_Ms mi_39 78 (ga_iast 79) := gs_iast (by decide +kernel : decode mi_39.2.1 78 = .ok (.iastore, 1)) rfl
theorem s_39_79 {K : gC} : gOk K g_Ms mi_39 79 (ga_push (.int 1) 80) := gs_iconst (by decide +kernel : decode mi_39.2.1 79 = .ok (.iconst 1, 1)) (by decide) rfl
theorem s_39_80 {K : gC} : gOk K g_Ms mi_39 80 (ga_zret) := gs_zret (by decide +kernel : decode mi_39.2.1 80 = .ok (.ireturn, 1)) rfl rfl rfl
theorem ok_39 {K : gC} : ∀ e ∈ t_39, gOk K g_Ms mi_39 e.1 e.2 := by
  unfold t_39
  simp only [List.forall_mem_cons, List.not_mem_nil, false_implies, implies_true, and_true]
  exact ⟨s_39_0, s_39_1, s_39_2, s_39_3, s_39_6, s_39_7, s_39_8, s_39_11, s_39_14, s_39_15, s_39_16, s_39_17, s_39_20, s_39_21, s_39_22, s_39_23, s_39_24, s_39_27, s_39_28, s_39_29, s_39_32, s_39_35, s_39_36, s_39_39, s_39_40, s_39_43, s_39_44, s_39_45, s_39_46, s_39_49, s_39_50, s_39_51, s_39_52, s_39_54, s_39_57, s_39_60, s_39_61, s_39_62, s_39_63, s_39_66, s_39_67, s_39_68, s_39_69, s_39_70, s_39_73, s_39_74, s_39_75, s_39_78, s_39_79, s_39_80⟩
theorem s_40_0 {K : gC} : gOk K g_Ms mi_40 0 (ga_aload 0 1) := gs_aload_n (by decide +kernel : decode mi_40.2.1 0 = .ok (.aload_n 0, 1)) rfl rfl
theorem s_40_1 {K : gC} : gOk K g_Ms mi_40 1 (ga_push (.int 0) 2) := gs_iconst (by decide +kernel : decode mi_40.2.1 1 = .ok (.iconst 0, 1)) (by decide) rfl
theorem s_40_2 {K : gC} : gOk K g_Ms mi_40 2 (ga_aload 1 3) := gs_aload_n (by decide +kernel : decode mi_40.2.1 2 = .ok (.aload_n 1, 1)) rfl rfl
theorem s_40_3 {K : gC} : gOk K g_Ms mi_40 3 (ga_getI 0 4 6) := gs_getI gcls_0 (by decide) (by decide) gw_122 (by decide +kernel : decode mi_40.2.1 3 = .ok (.getfield 72, 3)) rfl
theorem s_40_6 {K : gC} : gOk K g_Ms mi_40 6 (ga_push (.int 1) 7) := gs_iconst (by decide +kernel : decode mi_40.2.1 6 = .ok (.iconst 1, 1)) (by decide) rfl
theorem s_40_7 {K : gC} : gOk K g_Ms mi_40 7 (ga_bin (fun x y => x - y) 8) := gs_isub (by decide +kernel : decode mi_40.2.1 7 = .ok (.isub, 1)) rfl
theorem s_40_8 {K : gC} : gOk K g_Ms mi_40 8 (ga_callV 4 43 2 11) := gs_callV gcls_4 (gce_X4_nextNumber (by decide) (by decide)) gw_386 gw_388 gw_6 (by decide +kernel : decode mi_40.2.1 8 = .ok (.invokevirtual 61, 3)) rfl
theorem s_40_11 {K : gC} : gOk K g_Ms mi_40 11 (ga_if (fun x => decide (¬ x = 0)) 16 14) := gs_if_ne (by decide +kernel : decode mi_40.2.1 11 = .ok (.ifCond .ne 5, 3)) (by decide) rfl
theorem s_40_14 {K : gC} : gOk K g_Ms mi_40 14 (ga_push (.int 0) 15) := gs_iconst (by decide +kernel : decode mi_40.2.1 14 = .ok (.iconst 0, 1)) (by decide) rfl
theorem s_40_15 {K : gC} : gOk K g_Ms mi_40 15 (ga_zret) := gs_zret (by decide +kernel : decode mi_40.2.1 15 = .ok (.ireturn, 1)) rfl rfl rfl
theorem s_40_16 {K : gC} : gOk K g_Ms mi_40 16 (ga_aload 1 17) := gs_aload_n (by decide +kernel : decode mi_40.2.1 16 = .ok (.aload_n 1, 1)) rfl rfl
theorem s_40_17 {K : gC} : gOk K g_Ms mi_40 17 (ga_getR 0 0 20) := gs_getR gcls_0 (by decide) (by decide) gw_106 (by decide +kernel : decode mi_40.2.1 17 = .ok (.getfield 75, 3)) rfl
theorem s_40_20 {K : gC} : gOk K g_Ms mi_40 20 (ga_aload 0 21) := gs_aload_n (by decide +kernel : decode mi_40.2.1 20 = .ok (.aload_n 0, 1)) rfl rfl
theorem s_40_21 {K : gC} : gOk K g_Ms mi_40 21 (ga_getI 4 5 24) := gs_getI gcls_4 (by decide) (by decide) gw_74 (by decide +kernel : decode mi_40.2.1 21 = .ok (.getfield 65, 3)) rfl
theorem s_40_24 {K : gC} : gOk K g_Ms mi_40 24 (ga_push (.int (-1)) 25) := gs_iconst (by decide +kernel : decode mi_40.2.1 24 = .ok (.iconst (-1), 1)) (by decide) rfl
theorem s_40_25 {K : gC} : gOk K g_Ms mi_40 25 (ga_iast 26) := gs_iast (by decide +kernel : decode mi_40.2.1 25 = .ok (.iastore, 1)) rfl
theorem s_40_26 {K : gC} : gOk K g_Ms mi_40 26 (ga_aload 1 27) := gs_aload_n (by decide +kernel : decode mi_40.2.1 26 = .ok (.aload_n 1, 1)) rfl rfl
theorem s_40_27 {K : gC} : gOk K g_Ms mi_40 27 (ga_getR 0 1 30) := gs_getR gcls_0 (by decide) (by decide) gw_109 (by decide +kernel : decode mi_40.2.1 27 = .ok (.getfield 78, 3)) rfl
theorem s_40_30 {K : gC} : gOk K g_Ms mi_40 30 (ga_aload 0 31) := gs_aload_n (by decide +kernel : decode mi_40.2.1 30 = .ok (.aload_n 0, 1)) rfl rfl
theorem s_40_31 {K : gC} : gOk K g_Ms mi_40 31 (ga_getI 4 5 34) := gs_getI gcls_4 (by decide) (by decide) gw_74 (by decide +kernel : decode mi_40.2.1 31 = .ok (.getfield 65, 3)) rfl
theorem s_40_34 {K : gC} : gOk K g_Ms mi_40 34 (ga_push (.int 0) 35) := gs_iconst (by decide +kernel : decode mi_40.2.1 34 = .ok (.iconst 0, 1)) (by decide) rfl
theorem s_40_35 {K : gC} : gOk K g_Ms mi_40 35 (ga_iast 36) := gs_iast (by decide +kernel : decode mi_40.2.1 35 = .ok (.iastore, 1)) rfl
theorem s_40_36 {K : gC} : gOk K g_Ms mi_40 36 (ga_push (.int 1) 37) := gs_iconst (by decide +kernel : decode mi_40.2.1 36 = .ok (.iconst 1, 1)) (by decide) rfl
theorem s_40_37 {K : gC} : gOk K g_Ms mi_40 37 (ga_zret) := gs_zret (by decide +kernel : decode mi_40.2.1 37 = .ok (.ireturn, 1)) rfl rfl rfl
theorem ok_40 {K : gC} : ∀ e ∈ t_40, gOk K g_Ms mi_40 e.1 e.2 := by
  unfold t_40
  simp only [List.forall_mem_cons, List.not_mem_nil, false_implies, implies_true, and_true]
  exact ⟨s_40_0, s_40_1, s_40_2, s_40_3, s_40_6, s_40_7, s_40_8, s_40_11, s_40_14, s_40_15, s_40_16, s_40_17, s_40_20, s_40_21, s_40_24, s_40_25, s_40_26, s_40_27, s_40_30, s_40_31, s_40_34, s_40_35, s_40_36, s_40_37⟩
theorem s_41_0 {K : gC} : gOk K g_Ms mi_41 0 (ga_aload 0 1) := gs_aload_n (by decide +kernel : decode mi_41.2.1 0 = .ok (.aload_n 0, 1)) rfl rfl
theorem s_41_1 {K : gC} : gOk K g_Ms mi_41 1 (ga_push (.int 0) 2) := gs_iconst (by decide +kernel : decode mi_41.2.1 1 = .ok (.iconst 0, 1)) (by decide) rfl
theorem s_41_2 {K : gC} : gOk K g_Ms mi_41 2 (ga_aload 1 3) := gs_aload_n (by decide +kernel : decode mi_41.2.1 2 = .ok (.aload_n 1, 1)) rfl rfl
theorem s_41_3 {K : gC} : gOk K g_Ms mi_41 3 (ga_getI 0 4 6) := gs_getI gcls_0 (by decide) (by decide) gw_122 (by decide +kernel : decode mi_41.2.1 3 = .ok (.getfield 72, 3)) rfl
theorem s_41_6 {K : gC} : gOk K g_Ms mi_41 6 (ga_push (.int 1) 7) := gs_iconst (by decide +kernel : decode mi_41.2.1 6 = .ok (.iconst 1, 1)) (by decide) rfl
theorem s_41_7 {K : gC} : gOk K g_Ms mi_41 7 (ga_bin (fun x y => x - y) 8) := gs_isub (by decide +kernel : decode mi_41.2.1 7 = .ok (.isub, 1)) rfl
theorem s_41_8 {K : gC} : gOk K g_Ms mi_41 8 (ga_callV 4 43 2 11) := gs_callV gcls_4 (gce_X4_nextNumber (by decide) (by decide)) gw_386 gw_388 gw_6 (by decide +kernel : decode mi_41.2.1 8 = .ok (.invokevirtual 61, 3)) rfl
theorem s_41_11 {K : gC} : gOk K g_Ms mi_41 11 (ga_if (fun x => decide (¬ x = 0)) 16 14) := gs_if_ne (by decide +kernel : decode mi_41.2.1 11 = .ok (.ifCond .ne 5, 3)) (by decide) rfl
theorem s_41_14 {K : gC} : gOk K g_Ms mi_41 14 (ga_push (.int 0) 15) := gs_iconst (by decide +kernel : decode mi_41.2.1 14 = .ok (.iconst 0, 1)) (by decide) rfl
theorem s_41_15 {K : gC} : gOk K g_Ms mi_41 15 (ga_zret) := gs_zret (by decide +kernel : decode mi_41.2.1 15 = .ok (.ireturn, 1)) rfl rfl rfl
theorem s_41_16 {K : gC} : gOk K g_Ms mi_41 16 (ga_aload 0 17) := gs_aload_n (by decide +kernel : decode mi_41.2.1 16 = .ok (.aload_n 0, 1)) rfl rfl
theorem s_41_17 {K : gC} : gOk K g_Ms mi_41 17 (ga_getI 4 5 20) := gs_getI gcls_4 (by decide) (by decide) gw_74 (by decide +kernel : decode mi_41.2.1 17 = .ok (.getfield 65, 3)) rfl
theorem s_41_20 {K : gC} : gOk K g_Ms mi_41 20 (ga_istore 3 21) := gs_istore_n (by decide +kernel : decode mi_41.2.1 20 = .ok (.istore_n 3, 1)) rfl rfl
theorem s_41_21 {K : gC} : gOk K g_Ms mi_41 21 (ga_aload 0 22) := gs_aload_n (by decide +kernel : decode mi_41.2.1 21 = .ok (.aload_n 0, 1)) rfl rfl
theorem s_41_22 {K : gC} : gOk K g_Ms mi_41 22 (ga_push (.int 1) 23) := gs_iconst (by decide +kernel : decode mi_41.2.1 22 = .ok (.iconst 1, 1)) (by decide) rfl
theorem s_41_23 {K : gC} : gOk K g_Ms mi_41 23 (ga_push (.int 20) 25) := gs_bipush (by decide +kernel : decode mi_41.2.1 23 = .ok (.bipush 20, 2)) (by decide) rfl
theorem s_41_25 {K : gC} : gOk K g_Ms mi_41 25 (ga_callV 4 43 2 28) := gs_callV gcls_4 (gce_X4_nextNumber (by decide) (by decide)) gw_386 gw_388 gw_6 (by decide +kernel : decode mi_41.2.1 25 = .ok (.invokevirtual 61, 3)) rfl
theorem s_41_28 {K : gC} : gOk K g_Ms mi_41 28 (ga_if (fun x => decide (¬ x = 0)) 33 31) := gs_if_ne (by decide +kernel : decode mi_41.2.1 28 = .ok (.ifCond .ne 5, 3)) (by decide) rfl
theorem s_41_31 {K : gC} : gOk K g_Ms mi_41 31 (ga_push (.int 0) 32) := gs_iconst (by decide +kernel : decode mi_41.2.1 31 = .ok (.iconst 0, 1)) (by decide) rfl
theorem s_41_32 {K : gC} : gOk K g_Ms mi_41 32 (ga_zret) := gs_zret (by decide +kernel : decode mi_41.2.1 32 = .ok (.ireturn, 1)) rfl rfl rfl
theorem s_41_33 {K : gC} : gOk K g_Ms mi_41 33 (ga_aload 1 34) := gs_aload_n (by decide +kernel : decode mi_41.2.1 33 = .ok (.aload_n 1, 1)) rfl rfl
theorem s_41_34 {K : gC} : gOk K g_Ms mi_41 34 (ga_getR 0 2 37) := gs_getR gcls_0 (by decide) (by decide) gw_114 (by decide +kernel : decode mi_41.2.1 34 = .ok (.getfield 81, 3)) rfl
theorem s_41_37 {K : gC} : gOk K g_Ms mi_41 37 (ga_iload 3 38) := gs_iload_n (by decide +kernel : decode mi_41.2.1 37 = .ok (.iload_n 3, 1)) rfl rfl
theorem s_41_38 {K : gC} : gOk K g_Ms mi_41 38 (ga_iload 2 39) := gs_iload_n (by decide +kernel : decode mi_41.2.1 38 = .ok (.iload_n 2, 1)) rfl rfl
theorem s_41_39 {K : gC} : gOk K g_Ms mi_41 39 (ga_iast 40) := gs_iast (by decide +kernel : decode mi_41.2.1 39 = .ok (.iastore, 1)) rfl
theorem s_41_40 {K : gC} : gOk K g_Ms mi_41 40 (ga_aload 1 41) := gs_aload_n (by decide +kernel : decode mi_41.2.1 40 = .ok (.aload_n 1, 1)) rfl rfl
theorem s_41_41 {K : gC} : gOk K g_Ms mi_41 41 (ga_getR 0 3 44) := gs_getR gcls_0 (by decide) (by decide) gw_118 (by decide +kernel : decode mi_41.2.1 41 = .ok (.getfield 84, 3)) rfl
theorem s_41_44 {K : gC} : gOk K g_Ms mi_41 44 (ga_iload 3 45) := gs_iload_n (by decide +kernel : decode mi_41.2.1 44 = .ok (.iload_n 3, 1)) rfl rfl
theorem s_41_45 {K : gC} : gOk K g_Ms mi_41 45 (ga_aload 0 46) := gs_aload_n (by decide +kernel : decode mi_41.2.1 45 = .ok (.aload_n 0, 1)) rfl rfl
theorem s_41_46 {K : gC} : gOk K g_Ms mi_41 46 (ga_getI 4 5 49) := gs_getI gcls_4 (by decide) (by decide) gw_74 (by decide +kernel : decode mi_41.2.1 46 = .ok (.getfield 65, 3)) rfl
theorem s_41_49 {K : gC} : gOk K g_Ms mi_41 49 (ga_iast 50) := gs_iast (by decide +kernel : decode mi_41.2.1 49 = .ok (.iastore, 1)) rfl
theorem s_41_50 {K : gC} : gOk K g_Ms mi_41 50 (ga_push (.int 1) 51) := gs_iconst (by decide +kernel : decode mi_41.2.1 50 = .ok (.iconst 1, 1)) (by decide) rfl
theorem s_41_51 {K : gC} : gOk K g_Ms mi_41 51 (ga_zret) := gs_zret (by decide +kernel : decode mi_41.2.1 51 = .ok (.ireturn, 1)) rfl rfl rfl
theorem ok_41 {K : gC} : ∀ e ∈ t_41, gOk K g_Ms mi_41 e.1 e.2 := by
  unfold t_41
  simp only [List.forall_mem_cons, List.not_mem_nil, false_implies, implies_true, and_true]
  exact ⟨s_41_0, s_41_1, s_41_2, s_41_3, s_41_6, s_41_7, s_41_8, s_41_11, s_41_14, s_41_15, s_41_16, s_41_17, s_41_20, s_41_21, s_41_22, s_41_23, s_41_25, s_41_28, s_41_31, s_41_32, s_41_33, s_41_34, s_41_37, s_41_38, s_41_39, s_41_40, s_41_41, s_41_44, s_41_45, s_41_46, s_41_49, s_41_50, s_41_51⟩
theorem s_42_0 {K : gC} : gOk K g_Ms mi_42 0 (ga_aload 0 1) := gs_aload_n (by decide +kernel : decode mi_42.2.1 0 = .ok (.aload_n 0, 1)) rfl rfl
theorem s_42_1 {K : gC} : gOk K g_Ms mi_42 1 (ga_aload 0 2) := gs_aload_n (by decide +kernel : decode mi_42.2.1 1 = .ok (.aload_n 0, 1)) rfl rfl
theorem s_42_2 {K : gC} : gOk K g_Ms mi_42 2 (ga_getI 4 4 5) := gs_getI gcls_4 (by decide) (by decide) gw_73 (by decide +kernel : decode mi_42.2.1 2 = .ok (.getfield 19, 3)) rfl
theorem s_42_5 {K : gC} : gOk K g_Ms mi_42 5 (ga_putI 4 3 8) := gs_putI gcls_4 (by decide) (by decide) rfl rfl gw_72 (by decide +kernel : decode mi_42.2.1 5 = .ok (.putfield 29, 3)) rfl
theorem s_42_8 {K : gC} : gOk K g_Ms mi_42 8 (ga_aload 0 9) := gs_aload_n (by decide +kernel : decode mi_42.2.1 8 = .ok (.aload_n 0, 1)) rfl rfl
theorem s_42_9 {K : gC} : gOk K g_Ms mi_42 9 (ga_getI 4 3 12) := gs_getI gcls_4 (by decide) (by decide) gw_72 (by decide +kernel : decode mi_42.2.1 9 = .ok (.getfield 29, 3)) rfl
theorem s_42_12 {K : gC} : gOk K g_Ms mi_42 12 (ga_aload 0 13) := gs_aload_n (by decide +kernel : decode mi_42.2.1 12 = .ok (.aload_n 0, 1)) rfl rfl
theorem s_42_13 {K : gC} : gOk K g_Ms mi_42 13 (ga_getI 4 1 16) := gs_getI gcls_4 (by decide) (by decide) gw_68 (by decide +kernel : decode mi_42.2.1 13 = .ok (.getfield 15, 3)) rfl
theorem s_42_16 {K : gC} : gOk K g_Ms mi_42 16 (ga_cmp (fun x y => decide (y ≤ x)) 45 19) := gs_cmp_ge (by decide +kernel : decode mi_42.2.1 16 = .ok (.if_icmp .ge 29, 3)) (by decide) rfl
theorem s_42_19 {K : gC} : gOk K g_Ms mi_42 19 (ga_aload 0 20) := gs_aload_n (by decide +kernel : decode mi_42.2.1 19 = .ok (.aload_n 0, 1)) rfl rfl
theorem s_42_20 {K : gC} : gOk K g_Ms mi_42 20 (ga_aload 0 21) := gs_aload_n (by decide +kernel : decode mi_42.2.1 20 = .ok (.aload_n 0, 1)) rfl rfl
theorem s_42_21 {K : gC} : gOk K g_Ms mi_42 21 (ga_getI 4 3 24) := gs_getI gcls_4 (by decide) (by decide) gw_72 (by decide +kernel : decode mi_42.2.1 21 = .ok (.getfield 29, 3)) rfl
theorem s_42_24 {K : gC} : gOk K g_Ms mi_42 24 (ga_callV 4 49 1 27) := gs_callV gcls_4 (gce_X4_byteAt (by decide) (by decide)) gw_303 gw_305 gw_2 (by decide +kernel : decode mi_42.2.1 24 = .ok (.invokevirtual 35, 3)) rfl
theorem s_42_27 {K : gC} : gOk K g_Ms mi_42 27 (ga_push (.int 32) 29) := gs_bipush (by decide +kernel : decode mi_42.2.1 27 = .ok (.bipush 32, 2)) (by decide) rfl
theorem s_42_29 {K : gC} : gOk K g_Ms mi_42 29 (ga_cmp (fun x y => decide (¬ x = y)) 45 32) := gs_cmp_ne (by decide +kernel : decode mi_42.2.1 29 = .ok (.if_icmp .ne 16, 3)) (by decide) rfl
theorem s_42_32 {K : gC} : gOk K g_Ms mi_42 32 (ga_aload 0 33) := gs_aload_n (by decide +kernel : decode mi_42.2.1 32 = .ok (.aload_n 0, 1)) rfl rfl
theorem s_42_33 {K : gC} : gOk K g_Ms mi_42 33 (ga_dup 34) := gs_dup (by decide +kernel : decode mi_42.2.1 33 = .ok (.dup, 1)) rfl
theorem s_42_34 {K : gC} : gOk K g_Ms mi_42 34 (ga_getI 4 3 37) := gs_getI gcls_4 (by decide) (by decide) gw_72 (by decide +kernel : decode mi_42.2.1 34 = .ok (.getfield 29, 3)) rfl
theorem s_42_37 {K : gC} : gOk K g_Ms mi_42 37 (ga_push (.int 1) 38) := gs_iconst (by decide +kernel : decode mi_42.2.1 37 = .ok (.iconst 1, 1)) (by decide) rfl
theorem s_42_38 {K : gC} : gOk K g_Ms mi_42 38 (ga_bin (fun x y => x + y) 39) := gs_iadd (by decide +kernel : decode mi_42.2.1 38 = .ok (.iadd, 1)) rfl
theorem s_42_39 {K : gC} : gOk K g_Ms mi_42 39 (ga_putI 4 3 42) := gs_putI gcls_4 (by decide) (by decide) rfl rfl gw_72 (by decide +kernel : decode mi_42.2.1 39 = .ok (.putfield 29, 3)) rfl
theorem s_42_42 {K : gC} : gOk K g_Ms mi_42 42 (ga_goto 8) := gs_goto (by decide +kernel : decode mi_42.2.1 42 = .ok (.goto (-34), 3)) (by decide)
theorem s_42_45 {K : gC} : gOk K g_Ms mi_42 45 (ga_aload 0 46) := gs_aload_n (by decide +kernel : decode mi_42.2.1 45 = .ok (.aload_n 0, 1)) rfl rfl
theorem s_42_46 {K : gC} : gOk K g_Ms mi_42 46 (ga_aload 0 47) := gs_aload_n (by decide +kernel : decode mi_42.2.1 46 = .ok (.aload_n 0, 1)) rfl rfl
theorem s_42_47 {K : gC} : gOk K g_Ms mi_42 47 (ga_getI 4 3 50) := gs_getI gcls_4 (by decide) (by decide) gw_72 (by decide +kernel : decode mi_42.2.1 47 = .ok (.getfield 29, 3)) rfl
theorem s_42_50 {K : gC} : gOk K g_Ms mi_42 50 (ga_putI 4 4 53) := gs_putI gcls_4 (by decide) (by decide) rfl rfl gw_73 (by decide +kernel : decode mi_42.2.1 50 = .ok (.putfield 19, 3)) rfl
theorem s_42_53 {K : gC} : gOk K g_Ms mi_42 53 (ga_aload 0 54) := gs_aload_n (by decide +kernel : decode mi_42.2.1 53 = .ok (.aload_n 0, 1)) rfl rfl
theorem s_42_54 {K : gC} : gOk K g_Ms mi_42 54 (ga_aload 0 55) := gs_aload_n (by decide +kernel : decode mi_42.2.1 54 = .ok (.aload_n 0, 1)) rfl rfl
theorem s_42_55 {K : gC} : gOk K g_Ms mi_42 55 (ga_getI 4 3 58) := gs_getI gcls_4 (by decide) (by decide) gw_72 (by decide +kernel : decode mi_42.2.1 55 = .ok (.getfield 29, 3)) rfl
theorem s_42_58 {K : gC} : gOk K g_Ms mi_42 58 (ga_callV 4 49 1 61) := gs_callV gcls_4 (gce_X4_byteAt (by decide) (by decide)) gw_303 gw_305 gw_2 (by decide +kernel : decode mi_42.2.1 58 = .ok (.invokevirtual 35, 3)) rfl
theorem s_42_61 {K : gC} : gOk K g_Ms mi_42 61 (ga_call 47 1 64) := gs_callS (gce_X4_isLetter (by decide) (by decide)) gw_307 gw_308 (by decide +kernel : decode mi_42.2.1 61 = .ok (.invokestatic 87, 3)) rfl
theorem s_42_64 {K : gC} : gOk K g_Ms mi_42 64 (ga_if (fun x => decide (x = 0)) 105 67) := gs_if_eq (by decide +kernel : decode mi_42.2.1 64 = .ok (.ifCond .eq 41, 3)) (by decide) rfl
theorem s_42_67 {K : gC} : gOk K g_Ms mi_42 67 (ga_aload 0 68) := gs_aload_n (by decide +kernel : decode mi_42.2.1 67 = .ok (.aload_n 0, 1)) rfl rfl
theorem s_42_68 {K : gC} : gOk K g_Ms mi_42 68 (ga_getI 4 4 71) := gs_getI gcls_4 (by decide) (by decide) gw_73 (by decide +kernel : decode mi_42.2.1 68 = .ok (.getfield 19, 3)) rfl
theorem s_42_71 {K : gC} : gOk K g_Ms mi_42 71 (ga_aload 0 72) := gs_aload_n (by decide +kernel : decode mi_42.2.1 71 = .ok (.aload_n 0, 1)) rfl rfl
theorem s_42_72 {K : gC} : gOk K g_Ms mi_42 72 (ga_getI 4 1 75) := gs_getI gcls_4 (by decide) (by decide) gw_68 (by decide +kernel : decode mi_42.2.1 72 = .ok (.getfield 15, 3)) rfl
theorem s_42_75 {K : gC} : gOk K g_Ms mi_42 75 (ga_cmp (fun x y => decide (y ≤ x)) 178 78) := gs_cmp_ge (by decide +kernel : decode mi_42.2.1 75 = .ok (.if_icmp .ge 103, 3)) (by decide) rfl
theorem s_42_78 {K : gC} : gOk K g_Ms mi_42 78 (ga_aload 0 79) := gs_aload_n (by decide +kernel : decode mi_42.2.1 78 = .ok (.aload_n 0, 1)) rfl rfl
theorem s_42_79 {K : gC} : gOk K g_Ms mi_42 79 (ga_aload 0 80) := gs_aload_n (by decide +kernel : decode mi_42.2.1 79 = .ok (.aload_n 0, 1)) rfl rfl
theorem s_42_80 {K : gC} : gOk K g_Ms mi_42 80 (ga_getI 4 4 83) := gs_getI gcls_4 (by decide) (by decide) gw_73 (by decide +kernel : decode mi_42.2.1 80 = .ok (.getfield 19, 3)) rfl
theorem s_42_83 {K : gC} : gOk K g_Ms mi_42 83 (ga_callV 4 49 1 86) := gs_callV gcls_4 (gce_X4_byteAt (by decide) (by decide)) gw_303 gw_305 gw_2 (by decide +kernel : decode mi_42.2.1 83 = .ok (.invokevirtual 35, 3)) rfl
theorem s_42_86 {K : gC} : gOk K g_Ms mi_42 86 (ga_call 47 1 89) := gs_callS (gce_X4_isLetter (by decide) (by decide)) gw_307 gw_308 (by decide +kernel : decode mi_42.2.1 86 = .ok (.invokestatic 87, 3)) rfl
theorem s_42_89 {K : gC} : gOk K g_Ms mi_42 89 (ga_if (fun x => decide (x = 0)) 178 92) := gs_if_eq (by decide +kernel : decode mi_42.2.1 89 = .ok (.ifCond .eq 89, 3)) (by decide) rfl
theorem s_42_92 {K : gC} : gOk K g_Ms mi_42 92 (ga_aload 0 93) := gs_aload_n (by decide +kernel : decode mi_42.2.1 92 = .ok (.aload_n 0, 1)) rfl rfl
theorem s_42_93 {K : gC} : gOk K g_Ms mi_42 93 (ga_dup 94) := gs_dup (by decide +kernel : decode mi_42.2.1 93 = .ok (.dup, 1)) rfl
theorem s_42_94 {K : gC} : gOk K g_Ms mi_42 94 (ga_getI 4 4 97) := gs_getI gcls_4 (by decide) (by decide) gw_73 (by decide +kernel : decode mi_42.2.1 94 = .ok (.getfield 19, 3)) rfl
theorem s_42_97 {K : gC} : gOk K g_Ms mi_42 97 (ga_push (.int 1) 98) := gs_iconst (by decide +kernel : decode mi_42.2.1 97 = .ok (.iconst 1, 1)) (by decide) rfl
theorem s_42_98 {K : gC} : gOk K g_Ms mi_42 98 (ga_bin (fun x y => x + y) 99) := gs_iadd (by decide +kernel : decode mi_42.2.1 98 = .ok (.iadd, 1)) rfl
theorem s_42_99 {K : gC} : gOk K g_Ms mi_42 99 (ga_putI 4 4 102) := gs_putI gcls_4 (by decide) (by decide) rfl rfl gw_73 (by decide +kernel : decode mi_42.2.1 99 = .ok (.putfield 19, 3)) rfl
theorem s_42_102 {K : gC} : gOk K g_Ms mi_42 102 (ga_goto 67) := gs_goto (by decide +kernel : decode mi_42.2.1 102 = .ok (.goto (-35), 3)) (by decide)
theorem s_42_105 {K : gC} : gOk K g_Ms mi_42 105 (ga_aload 0 106) := gs_aload_n (by decide +kernel : decode mi_42.2.1 105 = .ok (.aload_n 0, 1)) rfl rfl
theorem s_42_106 {K : gC} : gOk K g_Ms mi_42 106 (ga_aload 0 107) := gs_aload_n (by decide +kernel : decode mi_42.2.1 106 = .ok (.aload_n 0, 1)) rfl rfl
theorem s_42_107 {K : gC} : gOk K g_Ms mi_42 107 (ga_getI 4 3 110) := gs_getI gcls_4 (by decide) (by decide) gw_72 (by decide +kernel : decode mi_42.2.1 107 = .ok (.getfield 29, 3)) rfl
theorem s_42_110 {K : gC} : gOk K g_Ms mi_42 110 (ga_callV 4 49 1 113) := gs_callV gcls_4 (gce_X4_byteAt (by decide) (by decide)) gw_303 gw_305 gw_2 (by decide +kernel : decode mi_42.2.1 110 = .ok (.invokevirtual 35, 3)) rfl
theorem s_42_113 {K : gC} : gOk K g_Ms mi_42 113 (ga_call 48 1 116) := gs_callS (gce_X4_isDigit (by decide) (by decide)) gw_310 gw_311 (by decide +kernel : decode mi_42.2.1 113 = .ok (.invokestatic 91, 3)) rfl
theorem s_42_116 {K : gC} : gOk K g_Ms mi_42 116 (ga_if (fun x => decide (x = 0)) 157 119) := gs_if_eq (by decide +kernel : decode mi_42.2.1 116 = .ok (.ifCond .eq 41, 3)) (by decide) rfl
theorem s_42_119 {K : gC} : gOk K g_Ms mi_42 119 (ga_aload 0 120) := gs_aload_n (by decide +kernel : decode mi_42.2.1 119 = .ok (.aload_n 0, 1)) rfl rfl
theorem s_42_120 {K : gC} : gOk K g_Ms mi_42 120 (ga_getI 4 4 123) := gs_getI gcls_4 (by decide) (by decide) gw_73 (by decide +kernel : decode mi_42.2.1 120 = .ok (.getfield 19, 3)) rfl
theorem s_42_123 {K : gC} : gOk K g_Ms mi_42 123 (ga_aload 0 124) := gs_aload_n (by decide +kernel : decode mi_42.2.1 123 = .ok (.aload_n 0, 1)) rfl rfl
theorem s_42_124 {K : gC} : gOk K g_Ms mi_42 124 (ga_getI 4 1 127) := gs_getI gcls_4 (by decide) (by decide) gw_68 (by decide +kernel : decode mi_42.2.1 124 = .ok (.getfield 15, 3)) rfl
theorem s_42_127 {K : gC} : gOk K g_Ms mi_42 127 (ga_cmp (fun x y => decide (y ≤ x)) 178 130) := gs_cmp_ge (by decide +kernel : decode mi_42.2.1 127 = .ok (.if_icmp .ge 51, 3)) (by decide) rfl
theorem s_42_130 {K : gC} : gOk K g_Ms mi_42 130 (ga_aload 0 131) := gs_aload_n (by decide +kernel : decode mi_42.2.1 130 = .ok (.aload_n 0, 1)) rfl rfl
theorem s_42_131 {K : gC} : gOk K g_Ms mi_42 131 (ga_aload 0 132) := gs_aload_n (by decide +kernel : decode mi_42.2.1 131 = .ok (.aload_n 0, 1)) rfl rfl
theorem s_42_132 {K : gC} : gOk K g_Ms mi_42 132 (ga_getI 4 4 135) := gs_getI gcls_4 (by decide) (by decide) gw_73 (by decide +kernel : decode mi_42.2.1 132 = .ok (.getfield 19, 3)) rfl
theorem s_42_135 {K : gC} : gOk K g_Ms mi_42 135 (ga_callV 4 49 1 138) := gs_callV gcls_4 (gce_X4_byteAt (by decide) (by decide)) gw_303 gw_305 gw_2 (by decide +kernel : decode mi_42.2.1 135 = .ok (.invokevirtual 35, 3)) rfl
theorem s_42_138 {K : gC} : gOk K g_Ms mi_42 138 (ga_call 48 1 141) := gs_callS (gce_X4_isDigit (by decide) (by decide)) gw_310 gw_311 (by decide +kernel : decode mi_42.2.1 138 = .ok (.invokestatic 91, 3)) rfl
theorem s_42_141 {K : gC} : gOk K g_Ms mi_42 141 (ga_if (fun x => decide (x = 0)) 178 144) := gs_if_eq (by decide +kernel : decode mi_42.2.1 141 = .ok (.ifCond .eq 37, 3)) (by decide) rfl
theorem s_42_144 {K : gC} : gOk K g_Ms mi_42 144 (ga_aload 0 145) := gs_aload_n (by decide +kernel : decode mi_42.2.1 144 = .ok (.aload_n 0, 1)) rfl rfl
theorem s_42_145 {K : gC} : gOk K g_Ms mi_42 145 (ga_dup 146) := gs_dup (by decide +kernel : decode mi_42.2.1 145 = .ok (.dup, 1)) rfl
theorem s_42_146 {K : gC} : gOk K g_Ms mi_42 146 (ga_getI 4 4 149) := gs_getI gcls_4 (by decide) (by decide) gw_73 (by decide +kernel : decode mi_42.2.1 146 = .ok (.getfield 19, 3)) rfl
theorem s_42_149 {K : gC} : gOk K g_Ms mi_42 149 (ga_push (.int 1) 150) := gs_iconst (by decide +kernel : decode mi_42.2.1 149 = .ok (.iconst 1, 1)) (by decide) rfl
theorem s_42_150 {K : gC} : gOk K g_Ms mi_42 150 (ga_bin (fun x y => x + y) 151) := gs_iadd (by decide +kernel : decode mi_42.2.1 150 = .ok (.iadd, 1)) rfl
theorem s_42_151 {K : gC} : gOk K g_Ms mi_42 151 (ga_putI 4 4 154) := gs_putI gcls_4 (by decide) (by decide) rfl rfl gw_73 (by decide +kernel : decode mi_42.2.1 151 = .ok (.putfield 19, 3)) rfl
theorem s_42_154 {K : gC} : gOk K g_Ms mi_42 154 (ga_goto 119) := gs_goto (by decide +kernel : decode mi_42.2.1 154 = .ok (.goto (-35), 3)) (by decide)
theorem s_42_157 {K : gC} : gOk K g_Ms mi_42 157 (ga_aload 0 158) := gs_aload_n (by decide +kernel : decode mi_42.2.1 157 = .ok (.aload_n 0, 1)) rfl rfl
theorem s_42_158 {K : gC} : gOk K g_Ms mi_42 158 (ga_getI 4 4 161) := gs_getI gcls_4 (by decide) (by decide) gw_73 (by decide +kernel : decode mi_42.2.1 158 = .ok (.getfield 19, 3)) rfl
theorem s_42_161 {K : gC} : gOk K g_Ms mi_42 161 (ga_aload 0 162) := gs_aload_n (by decide +kernel : decode mi_42.2.1 161 = .ok (.aload_n 0, 1)) rfl rfl
theorem s_42_162 {K : gC} : gOk K g_Ms mi_42 162 (ga_getI 4 1 165) := gs_getI gcls_4 (by decide) (by decide) gw_68 (by decide +kernel : decode mi_42.2.1 162 = .ok (.getfield 15, 3)) rfl
theorem s_42_165 {K : gC} : gOk K g_Ms mi_42 165 (ga_cmp (fun x y => decide (y ≤ x)) 178 168) := gs_cmp_ge (by decide +kernel : decode mi_42.2.1 165 = .ok (.if_icmp .ge 13, 3)) (by decide) rfl
theorem s_42_168 {K : gC} : gOk K g_Ms mi_42 168 (ga_aload 0 169) := gs_aload_n (by decide +kernel : decode mi_42.2.1 168 = .ok (.aload_n 0, 1)) rfl rfl
theorem s_42_169 {K : gC} : gOk K g_Ms mi_42 169 (ga_dup 170) := gs_dup (by decide +kernel : decode mi_42.2.1 169 = .ok (.dup, 1)) rfl
theorem s_42_170 {K : gC} : gOk K g_Ms mi_42 170 (ga_getI 4 4 173) := gs_getI gcls_4 (by decide) (by decide) gw_73 (by decide +kernel : decode mi_42.2.1 170 = .ok (.getfield 19, 3)) rfl
theorem s_42_173 {K : gC} : gOk K g_Ms mi_42 173 (ga_push (.int 1) 174) := gs_iconst (by decide +kernel : decode mi_42.2.1 173 = .ok (.iconst 1, 1)) (by decide) rfl
theorem s_42_174 {K : gC} : gOk K g_Ms mi_42 174 (ga_bin (fun x y => x + y) 175) := gs_iadd (by decide +kernel : decode mi_42.2.1 174 = .ok (.iadd, 1)) rfl
theorem s_42_175 {K : gC} : gOk K g_Ms mi_42 175 (ga_putI 4 4 178) := gs_putI gcls_4 (by decide) (by decide) rfl rfl gw_73 (by decide +kernel : decode mi_42.2.1 175 = .ok (.putfield 19, 3)) rfl
theorem s_42_178 {K : gC} : gOk K g_Ms mi_42 178 (ga_vret) := gs_vret (by decide +kernel : decode mi_42.2.1 178 = .ok (.return_, 1)) rfl
theorem ok_42 {K : gC} : ∀ e ∈ t_42, gOk K g_Ms mi_42 e.1 e.2 := by
  unfold t_42
  simp only [List.forall_mem_cons, List.not_mem_nil, false_implies, implies_true, and_true]
  exact ⟨s_42_0, s_42_1, s_42_2, s_42_5, s_42_8, s_42_9, s_42_12, s_42_13, s_42_16, s_42_19, s_42_20, s_42_21, s_42_24, s_42_27, s_42_29, s_42_32, s_42_33, s_42_34, s_42_37, s_42_38, s_42_39, s_42_42, s_42_45, s_42_46, s_42_47, s_42_50, s_42_53, s_42_54, s_42_55, s_42_58, s_42_61, s_42_64, s_42_67, s_42_68, s_42_71, s_42_72, s_42_75, s_42_78, s_42_79, s_42_80, s_42_83, s_42_86, s_42_89, s_42_92, s_42_93, s_42_94, s_42_97, s_42_98, s_42_99, s_42_102, s_42_105, s_42_106, s_42_107, s_42_110, s_42_113, s_42_116, s_42_119, s_42_120, s_42_123, s_42_124, s_42_127, s_42_130, s_42_131, s_42_132, s_42_135, s_42_138, s_42_141, s_42_144, s_42_145, s_42_146, s_42_149, s_42_150, s_42_151, s_42_154, s_42_157, s_42_158, s_42_161, s_42_162, s_42_165, s_42_168, s_42_169, s_42_170, s_42_173, s_42_174, s_42_175, s_42_178⟩
theorem s_43_0 {K : gC} : gOk K g_Ms mi_43 0 (ga_aload 0 1) := gs_aload_n (by decide +kernel : decode mi_43.2.1 0 = .ok (.aload_n 0, 1)) rfl rfl
theorem s_43_1 {K : gC} : gOk K g_Ms mi_43 1 (ga_callV 4 42 0 4) := gs_callV gcls_4 (gce_X4_nextToken (by decide) (by decide)) gw_299 gw_301 gw_1 (by decide +kernel : decode mi_43.2.1 1 = .ok (.invokevirtual 32, 3)) rfl
theorem s_43_4 {K : gC} : gOk K g_Ms mi_43 4 (ga_aload 0 5) := gs_aload_n (by decide +kernel : decode mi_43.2.1 4 = .ok (.aload_n 0, 1)) rfl rfl
theorem s_43_5 {K : gC} : gOk K g_Ms mi_43 5 (ga_aload 0 6) := gs_aload_n (by decide +kernel : decode mi_43.2.1 5 = .ok (.aload_n 0, 1)) rfl rfl
theorem s_43_6 {K : gC} : gOk K g_Ms mi_43 6 (ga_getI 4 3 9) := gs_getI gcls_4 (by decide) (by decide) gw_72 (by decide +kernel : decode mi_43.2.1 6 = .ok (.getfield 29, 3)) rfl
theorem s_43_9 {K : gC} : gOk K g_Ms mi_43 9 (ga_callV 4 49 1 12) := gs_callV gcls_4 (gce_X4_byteAt (by decide) (by decide)) gw_303 gw_305 gw_2 (by decide +kernel : decode mi_43.2.1 9 = .ok (.invokevirtual 35, 3)) rfl
theorem s_43_12 {K : gC} : gOk K g_Ms mi_43 12 (ga_call 48 1 15) := gs_callS (gce_X4_isDigit (by decide) (by decide)) gw_310 gw_311 (by decide +kernel : decode mi_43.2.1 12 = .ok (.invokestatic 91, 3)) rfl
theorem s_43_15 {K : gC} : gOk K g_Ms mi_43 15 (ga_if (fun x => decide (x = 0)) 31 18) := gs_if_eq (by decide +kernel : decode mi_43.2.1 15 = .ok (.ifCond .eq 16, 3)) (by decide) rfl
theorem s_43_18 {K : gC} : gOk K g_Ms mi_43 18 (ga_aload 0 19) := gs_aload_n (by decide +kernel : decode mi_43.2.1 18 = .ok (.aload_n 0, 1)) rfl rfl
theorem s_43_19 {K : gC} : gOk K g_Ms mi_43 19 (ga_getI 4 4 22) := gs_getI gcls_4 (by decide) (by decide) gw_73 (by decide +kernel : decode mi_43.2.1 19 = .ok (.getfield 19, 3)) rfl
theorem s_43_22 {K : gC} : gOk K g_Ms mi_43 22 (ga_aload 0 23) := gs_aload_n (by decide +kernel : decode mi_43.2.1 22 = .ok (.aload_n 0, 1)) rfl rfl
theorem s_43_23 {K : gC} : gOk K g_Ms mi_43 23 (ga_getI 4 3 26) := gs_getI gcls_4 (by decide) (by decide) gw_72 (by decide +kernel : decode mi_43.2.1 23 = .ok (.getfield 29, 3)) rfl
theorem s_43_26 {K : gC} : gOk K g_Ms mi_43 26 (ga_bin (fun x y => x - y) 27) := gs_isub (by decide +kernel : decode mi_43.2.1 26 = .ok (.isub, 1)) rfl
theorem s_43_27 {K : gC} : gOk K g_Ms mi_43 27 (ga_push (.int 2) 28) := gs_iconst (by decide +kernel : decode mi_43.2.1 27 = .ok (.iconst 2, 1)) (by decide) rfl
theorem s_43_28 {K : gC} : gOk K g_Ms mi_43 28 (ga_cmp (fun x y => decide (x ≤ y)) 33 31) := gs_cmp_le (by decide +kernel : decode mi_43.2.1 28 = .ok (.if_icmp .le 5, 3)) (by decide) rfl
theorem s_43_31 {K : gC} : gOk K g_Ms mi_43 31 (ga_push (.int 0) 32) := gs_iconst (by decide +kernel : decode mi_43.2.1 31 = .ok (.iconst 0, 1)) (by decide) rfl
theorem s_43_32 {K : gC} : gOk K g_Ms mi_43 32 (ga_zret) := gs_zret (by decide +kernel : decode mi_43.2.1 32 = .ok (.ireturn, 1)) rfl rfl rfl
theorem s_43_33 {K : gC} : gOk K g_Ms mi_43 33 (ga_aload 0 34) := gs_aload_n (by decide +kernel : decode mi_43.2.1 33 = .ok (.aload_n 0, 1)) rfl rfl
theorem s_43_34 {K : gC} : gOk K g_Ms mi_43 34 (ga_push (.int 0) 35) := gs_iconst (by decide +kernel : decode mi_43.2.1 34 = .ok (.iconst 0, 1)) (by decide) rfl
theorem s_43_35 {K : gC} : gOk K g_Ms mi_43 35 (ga_putI 4 5 38) := gs_putI gcls_4 (by decide) (by decide) rfl rfl gw_74 (by decide +kernel : decode mi_43.2.1 35 = .ok (.putfield 65, 3)) rfl
theorem s_43_38 {K : gC} : gOk K g_Ms mi_43 38 (ga_aload 0 39) := gs_aload_n (by decide +kernel : decode mi_43.2.1 38 = .ok (.aload_n 0, 1)) rfl rfl
theorem s_43_39 {K : gC} : gOk K g_Ms mi_43 39 (ga_getI 4 3 42) := gs_getI gcls_4 (by decide) (by decide) gw_72 (by decide +kernel : decode mi_43.2.1 39 = .ok (.getfield 29, 3)) rfl
theorem s_43_42 {K : gC} : gOk K g_Ms mi_43 42 (ga_istore 3 43) := gs_istore_n (by decide +kernel : decode mi_43.2.1 42 = .ok (.istore_n 3, 1)) rfl rfl
theorem s_43_43 {K : gC} : gOk K g_Ms mi_43 43 (ga_iload 3 44) := gs_iload_n (by decide +kernel : decode mi_43.2.1 43 = .ok (.iload_n 3, 1)) rfl rfl
theorem s_43_44 {K : gC} : gOk K g_Ms mi_43 44 (ga_aload 0 45) := gs_aload_n (by decide +kernel : decode mi_43.2.1 44 = .ok (.aload_n 0, 1)) rfl rfl
theorem s_43_45 {K : gC} : gOk K g_Ms mi_43 45 (ga_getI 4 4 48) := gs_getI gcls_4 (by decide) (by decide) gw_73 (by decide +kernel : decode mi_43.2.1 45 = .ok (.getfield 19, 3)) rfl
theorem s_43_48 {K : gC} : gOk K g_Ms mi_43 48 (ga_cmp (fun x y => decide (y ≤ x)) 77 51) := gs_cmp_ge (by decide +kernel : decode mi_43.2.1 48 = .ok (.if_icmp .ge 29, 3)) (by decide) rfl
theorem s_43_51 {K : gC} : gOk K g_Ms mi_43 51 (ga_aload 0 52) := gs_aload_n (by decide +kernel : decode mi_43.2.1 51 = .ok (.aload_n 0, 1)) rfl rfl
theorem s_43_52 {K : gC} : gOk K g_Ms mi_43 52 (ga_aload 0 53) := gs_aload_n (by decide +kernel : decode mi_43.2.1 52 = .ok (.aload_n 0, 1)) rfl rfl
theorem s_43_53 {K : gC} : gOk K g_Ms mi_43 53 (ga_getI 4 5 56) := gs_getI gcls_4 (by decide) (by decide) gw_74 (by decide +kernel : decode mi_43.2.1 53 = .ok (.getfield 65, 3)) rfl
theorem s_43_56 {K : gC} : gOk K g_Ms mi_43 56 (ga_push (.int 10) 58) := gs_bipush (by decide +kernel : decode mi_43.2.1 56 = .ok (.bipush 10, 2)) (by decide) rfl
theorem s_43_58 {K : gC} : gOk K g_Ms mi_43 58 (ga_bin (fun x y => x * y) 59) := gs_imul (by decide +kernel : decode mi_43.2.1 58 = .ok (.imul, 1)) rfl
theorem s_43_59 {K : gC} : gOk K g_Ms mi_43 59 (ga_aload 0 60) := gs_aload_n (by decide +kernel : decode mi_43.2.1 59 = .ok (.aload_n 0, 1)) rfl rfl
theorem s_43_60 {K : gC} : gOk K g_Ms mi_43 60 (ga_iload 3 61) := gs_iload_n (by decide +kernel : decode mi_43.2.1 60 = .ok (.iload_n 3, 1)) rfl rfl
theorem s_43_61 {K : gC} : gOk K g_Ms mi_43 61 (ga_callV 4 49 1 64) := gs_callV gcls_4 (gce_X4_byteAt (by decide) (by decide)) gw_303 gw_305 gw_2 (by decide +kernel : decode mi_43.2.1 61 = .ok (.invokevirtual 35, 3)) rfl
theorem s_43_64 {K : gC} : gOk K g_Ms mi_43 64 (ga_bin (fun x y => x + y) 65) := gs_iadd (by decide +kernel : decode mi_43.2.1 64 = .ok (.iadd, 1)) rfl
theorem s_43_65 {K : gC} : gOk K g_Ms mi_43 65 (ga_push (.int 48) 67) := gs_bipush (by decide +kernel : decode mi_43.2.1 65 = .ok (.bipush 48, 2)) (by decide) rfl
theorem s_43_67 {K : gC} : gOk K g_Ms mi_43 67 (ga_bin (fun x y => x - y) 68) := gs_isub (by decide +kernel : decode mi_43.2.1 67 = .ok (.isub, 1)) rfl
theorem s_43_68 {K : gC} : gOk K g_Ms mi_43 68 (ga_putI 4 5 71) := gs_putI gcls_4 (by decide) (by decide) rfl rfl gw_74 (by decide +kernel : decode mi_43.2.1 68 = .ok (.putfield 65, 3)) rfl
theorem s_43_71 {K : gC} : gOk K g_Ms mi_43 71 (ga_iinc 3 1 74) := gs_iinc (by decide +kernel : decode mi_43.2.1 71 = .ok (.iinc 3 1, 3)) (by decide) rfl
theorem s_43_74 {K : gC} : gOk K g_Ms mi_43 74 (ga_goto 43) := gs_goto (by decide +kernel : decode mi_43.2.1 74 = .ok (.goto (-31), 3)) (by decide)
theorem s_43_77 {K : gC} : gOk K g_Ms mi_43 77 (ga_aload 0 78) := gs_aload_n (by decide +kernel : decode mi_43.2.1 77 = .ok (.aload_n 0, 1)) rfl rfl
theorem s_43_78 {K : gC} : gOk K g_Ms mi_43 78 (ga_getI 4 5 81) := gs_getI gcls_4 (by decide) (by decide) gw_74 (by decide +kernel : decode mi_43.2.1 78 = .ok (.getfield 65, 3)) rfl
theorem s_43_81 {K : gC} : gOk K g_Ms mi_43 81 (ga_iload 1 82) := gs_iload_n (by decide +kernel : decode mi_43.2.1 81 = .ok (.iload_n 1, 1)) rfl rfl
theorem s_43_82 {K : gC} : gOk K g_Ms mi_43 82 (ga_cmp (fun x y => decide (x < y)) 97 85) := gs_cmp_lt (by decide +kernel : decode mi_43.2.1 82 = .ok (.if_icmp .lt 15, 3)) (by decide) rfl
theorem s_43_85 {K : gC} : gOk K g_Ms mi_43 85 (ga_aload 0 86) := gs_aload_n (by decide +kernel : decode mi_43.2.1 85 = .ok (.aload_n 0, 1)) rfl rfl
theorem s_43_86 {K : gC} : gOk K g_Ms mi_43 86 (ga_getI 4 5 89) := gs_getI gcls_4 (by decide) (by decide) gw_74 (by decide +kernel : decode mi_43.2.1 86 = .ok (.getfield 65, 3)) rfl
theorem s_43_89 {K : gC} : gOk K g_Ms mi_43 89 (ga_iload 2 90) := gs_iload_n (by decide +kernel : decode mi_43.2.1 89 = .ok (.iload_n 2, 1)) rfl rfl
theorem s_43_90 {K : gC} : gOk K g_Ms mi_43 90 (ga_cmp (fun x y => decide (y < x)) 97 93) := gs_cmp_gt (by decide +kernel : decode mi_43.2.1 90 = .ok (.if_icmp .gt 7, 3)) (by decide) rfl
theorem s_43_93 {K : gC} : gOk K g_Ms mi_43 93 (ga_push (.int 1) 94) := gs_iconst (by decide +kernel : decode mi_43.2.1 93 = .ok (.iconst 1, 1)) (by decide) rfl
theorem s_43_94 {K : gC} : gOk K g_Ms mi_43 94 (ga_goto 98) := gs_goto (by decide +kernel : decode mi_43.2.1 94 = .ok (.goto 4, 3)) (by decide)
theorem s_43_97 {K : gC} : gOk K g_Ms mi_43 97 (ga_push (.int 0) 98) := gs_iconst (by decide +kernel : decode mi_43.2.1 97 = .ok (.iconst 0, 1)) (by decide) rfl
theorem s_43_98 {K : gC} : gOk K g_Ms mi_43 98 (ga_zret) := gs_zret (by decide +kernel : decode mi_43.2.1 98 = .ok (.ireturn, 1)) rfl rfl rfl
theorem ok_43 {K : gC} : ∀ e ∈ t_43, gOk K g_Ms mi_43 e.1 e.2 := by
  unfold t_43
  simp only [List.forall_mem_cons, List.not_mem_nil, false_implies, implies_true, and_true]
  exact ⟨s_43_0, s_43_1, s_43_4, s_43_5, s_43_6, s_43_9, s_43_12, s_43_15, s_43_18, s_43_19, s_43_22, s_43_23, s_43_26, s_43_27, s_43_28, s_43_31, s_43_32, s_43_33, s_43_34, s_43_35, s_43_38, s_43_39, s_43_42, s_43_43, s_43_44, s_43_45, s_43_48, s_43_51, s_43_52, s_43_53, s_43_56, s_43_58, s_43_59, s_43_60, s_43_61, s_43_64, s_43_65, s_43_67, s_43_68, s_43_71, s_43_74, s_43_77, s_43_78, s_43_81, s_43_82, s_43_85, s_43_86, s_43_89, s_43_90, s_43_93, s_43_94, s_43_97, s_43_98⟩
theorem s_44_0 {K : gC} : gOk K g_Ms mi_44 0 (ga_push (.int 0) 1) := gs_iconst (by decide +kernel : decode mi_44.2.1 0 = .ok (.iconst 0, 1)) (by decide) rfl
theorem s_44_1 {K : gC} : gOk K g_Ms mi_44 1 (ga_istore 1 2) := gs_istore_n (by decide +kernel : decode mi_44.2.1 1 = .ok (.istore_n 1, 1)) rfl rfl
theorem s_44_2 {K : gC} : gOk K g_Ms mi_44 2 (ga_iload 1 3) := gs_iload_n (by decide +kernel : decode mi_44.2.1 2 = .ok (.iload_n 1, 1)) rfl rfl
theorem s_44_3 {K : gC} : gOk K g_Ms mi_44 3 (ga_push (.int 10) 5) := gs_bipush (by decide +kernel : decode mi_44.2.1 3 = .ok (.bipush 10, 2)) (by decide) rfl
theorem s_44_5 {K : gC} : gOk K g_Ms mi_44 5 (ga_cmp (fun x y => decide (y ≤ x)) 27 8) := gs_cmp_ge (by decide +kernel : decode mi_44.2.1 5 = .ok (.if_icmp .ge 22, 3)) (by decide) rfl
theorem s_44_8 {K : gC} : gOk K g_Ms mi_44 8 (ga_aload 0 9) := gs_aload_n (by decide +kernel : decode mi_44.2.1 8 = .ok (.aload_n 0, 1)) rfl rfl
theorem s_44_9 {K : gC} : gOk K g_Ms mi_44 9 (ga_iload 1 10) := gs_iload_n (by decide +kernel : decode mi_44.2.1 9 = .ok (.iload_n 1, 1)) rfl rfl
theorem s_44_10 {K : gC} : gOk K g_Ms mi_44 10 (ga_call 46 1 13) := gs_callS (gce_X4_wordAt (by decide) (by decide)) gw_317 gw_318 (by decide +kernel : decode mi_44.2.1 10 = .ok (.invokestatic 94, 3)) rfl
theorem s_44_13 {K : gC} : gOk K g_Ms mi_44 13 (ga_callV 4 45 1 16) := gs_callV gcls_4 (gce_X4_tokenIs (by decide) (by decide)) gw_330 gw_332 gw_4 (by decide +kernel : decode mi_44.2.1 13 = .ok (.invokevirtual 98, 3)) rfl
theorem s_44_16 {K : gC} : gOk K g_Ms mi_44 16 (ga_if (fun x => decide (x = 0)) 21 19) := gs_if_eq (by decide +kernel : decode mi_44.2.1 16 = .ok (.ifCond .eq 5, 3)) (by decide) rfl
theorem s_44_19 {K : gC} : gOk K g_Ms mi_44 19 (ga_iload 1 20) := gs_iload_n (by decide +kernel : decode mi_44.2.1 19 = .ok (.iload_n 1, 1)) rfl rfl
theorem s_44_20 {K : gC} : gOk K g_Ms mi_44 20 (ga_iret) := gs_iret (by decide +kernel : decode mi_44.2.1 20 = .ok (.ireturn, 1)) rfl
theorem s_44_21 {K : gC} : gOk K g_Ms mi_44 21 (ga_iinc 1 1 24) := gs_iinc (by decide +kernel : decode mi_44.2.1 21 = .ok (.iinc 1 1, 3)) (by decide) rfl
theorem s_44_24 {K : gC} : gOk K g_Ms mi_44 24 (ga_goto 2) := gs_goto (by decide +kernel : decode mi_44.2.1 24 = .ok (.goto (-22), 3)) (by decide)
theorem s_44_27 {K : gC} : gOk K g_Ms mi_44 27 (ga_push (.int (-1)) 28) := gs_iconst (by decide +kernel : decode mi_44.2.1 27 = .ok (.iconst (-1), 1)) (by decide) rfl
theorem s_44_28 {K : gC} : gOk K g_Ms mi_44 28 (ga_iret) := gs_iret (by decide +kernel : decode mi_44.2.1 28 = .ok (.ireturn, 1)) rfl
theorem ok_44 {K : gC} : ∀ e ∈ t_44, gOk K g_Ms mi_44 e.1 e.2 := by
  unfold t_44
  simp only [List.forall_mem_cons, List.not_mem_nil, false_implies, implies_true, and_true]
  exact ⟨s_44_0, s_44_1, s_44_2, s_44_3, s_44_5, s_44_8, s_44_9, s_44_10, s_44_13, s_44_16, s_44_19, s_44_20, s_44_21, s_44_24, s_44_27, s_44_28⟩
theorem s_45_0 {K : gC} : gOk K g_Ms mi_45 0 (ga_aload 0 1) := gs_aload_n (by decide +kernel : decode mi_45.2.1 0 = .ok (.aload_n 0, 1)) rfl rfl
theorem s_45_1 {K : gC} : gOk K g_Ms mi_45 1 (ga_getI 4 4 4) := gs_getI gcls_4 (by decide) (by decide) gw_73 (by decide +kernel : decode mi_45.2.1 1 = .ok (.getfield 19, 3)) rfl
theorem s_45_4 {K : gC} : gOk K g_Ms mi_45 4 (ga_aload 0 5) := gs_aload_n (by decide +kernel : decode mi_45.2.1 4 = .ok (.aload_n 0, 1)) rfl rfl
theorem s_45_5 {K : gC} : gOk K g_Ms mi_45 5 (ga_getI 4 3 8) := gs_getI gcls_4 (by decide) (by decide) gw_72 (by decide +kernel : decode mi_45.2.1 5 = .ok (.getfield 29, 3)) rfl
theorem s_45_8 {K : gC} : gOk K g_Ms mi_45 8 (ga_bin (fun x y => x - y) 9) := gs_isub (by decide +kernel : decode mi_45.2.1 8 = .ok (.isub, 1)) rfl
theorem s_45_9 {K : gC} : gOk K g_Ms mi_45 9 (ga_aload 1 10) := gs_aload_n (by decide +kernel : decode mi_45.2.1 9 = .ok (.aload_n 1, 1)) rfl rfl
theorem s_45_10 {K : gC} : gOk K g_Ms mi_45 10 (ga_callV 12 134 0 13) := gs_callT (gce_J0_length_8abf5 (by decide) (by decide)) gw_334 gw_335 gw_336 (by decide +kernel : decode mi_45.2.1 10 = .ok (.invokevirtual 102, 3)) rfl
theorem s_45_13 {K : gC} : gOk K g_Ms mi_45 13 (ga_cmp (fun x y => decide (x = y)) 18 16) := gs_cmp_eq (by decide +kernel : decode mi_45.2.1 13 = .ok (.if_icmp .eq 5, 3)) (by decide) rfl
theorem s_45_16 {K : gC} : gOk K g_Ms mi_45 16 (ga_push (.int 0) 17) := gs_iconst (by decide +kernel : decode mi_45.2.1 16 = .ok (.iconst 0, 1)) (by decide) rfl
theorem s_45_17 {K : gC} : gOk K g_Ms mi_45 17 (ga_zret) := gs_zret (by decide +kernel : decode mi_45.2.1 17 = .ok (.ireturn, 1)) rfl rfl rfl
theorem s_45_18 {K : gC} : gOk K g_Ms mi_45 18 (ga_push (.int 0) 19) := gs_iconst (by decide +kernel : decode mi_45.2.1 18 = .ok (.iconst 0, 1)) (by decide) rfl
theorem s_45_19 {K : gC} : gOk K g_Ms mi_45 19 (ga_istore 2 20) := gs_istore_n (by decide +kernel : decode mi_45.2.1 19 = .ok (.istore_n 2, 1)) rfl rfl
theorem s_45_20 {K : gC} : gOk K g_Ms mi_45 20 (ga_iload 2 21) := gs_iload_n (by decide +kernel : decode mi_45.2.1 20 = .ok (.iload_n 2, 1)) rfl rfl
theorem s_45_21 {K : gC} : gOk K g_Ms mi_45 21 (ga_aload 1 22) := gs_aload_n (by decide +kernel : decode mi_45.2.1 21 = .ok (.aload_n 1, 1)) rfl rfl
theorem s_45_22 {K : gC} : gOk K g_Ms mi_45 22 (ga_callV 12 134 0 25) := gs_callT (gce_J0_length_8abf5 (by decide) (by decide)) gw_334 gw_335 gw_336 (by decide +kernel : decode mi_45.2.1 22 = .ok (.invokevirtual 102, 3)) rfl
theorem s_45_25 {K : gC} : gOk K g_Ms mi_45 25 (ga_cmp (fun x y => decide (y ≤ x)) 54 28) := gs_cmp_ge (by decide +kernel : decode mi_45.2.1 25 = .ok (.if_icmp .ge 29, 3)) (by decide) rfl
theorem s_45_28 {K : gC} : gOk K g_Ms mi_45 28 (ga_aload 0 29) := gs_aload_n (by decide +kernel : decode mi_45.2.1 28 = .ok (.aload_n 0, 1)) rfl rfl
theorem s_45_29 {K : gC} : gOk K g_Ms mi_45 29 (ga_aload 0 30) := gs_aload_n (by decide +kernel : decode mi_45.2.1 29 = .ok (.aload_n 0, 1)) rfl rfl
theorem s_45_30 {K : gC} : gOk K g_Ms mi_45 30 (ga_getI 4 3 33) := gs_getI gcls_4 (by decide) (by decide) gw_72 (by decide +kernel : decode mi_45.2.1 30 = .ok (.getfield 29, 3)) rfl
theorem s_45_33 {K : gC} : gOk K g_Ms mi_45 33 (ga_iload 2 34) := gs_iload_n (by decide +kernel : decode mi_45.2.1 33 = .ok (.iload_n 2, 1)) rfl rfl
theorem s_45_34 {K : gC} : gOk K g_Ms mi_45 34 (ga_bin (fun x y => x + y) 35) := gs_iadd (by decide +kernel : decode mi_45.2.1 34 = .ok (.iadd, 1)) rfl
theorem s_45_35 {K : gC} : gOk K g_Ms mi_45 35 (ga_callV 4 49 1 38) := gs_callV gcls_4 (gce_X4_byteAt (by decide) (by decide)) gw_303 gw_305 gw_2 (by decide +kernel : decode mi_45.2.1 35 = .ok (.invokevirtual 35, 3)) rfl
theorem s_45_38 {K : gC} : gOk K g_Ms mi_45 38 (ga_aload 1 39) := gs_aload_n (by decide +kernel : decode mi_45.2.1 38 = .ok (.aload_n 1, 1)) rfl rfl
theorem s_45_39 {K : gC} : gOk K g_Ms mi_45 39 (ga_iload 2 40) := gs_iload_n (by decide +kernel : decode mi_45.2.1 39 = .ok (.iload_n 2, 1)) rfl rfl
theorem s_45_40 {K : gC} : gOk K g_Ms mi_45 40 (ga_callV 12 135 1 43) := gs_callT (gce_J0_charAt_5068e (by decide) (by decide)) gw_344 gw_345 gw_346 (by decide +kernel : decode mi_45.2.1 40 = .ok (.invokevirtual 106, 3)) rfl
theorem s_45_43 {K : gC} : gOk K g_Ms mi_45 43 (ga_cmp (fun x y => decide (x = y)) 48 46) := gs_cmp_eq (by decide +kernel : decode mi_45.2.1 43 = .ok (.if_icmp .eq 5, 3)) (by decide) rfl
theorem s_45_46 {K : gC} : gOk K g_Ms mi_45 46 (ga_push (.int 0) 47) := gs_iconst (by decide +kernel : decode mi_45.2.1 46 = .ok (.iconst 0, 1)) (by decide) rfl
theorem s_45_47 {K : gC} : gOk K g_Ms mi_45 47 (ga_zret) := gs_zret (by decide +kernel : decode mi_45.2.1 47 = .ok (.ireturn, 1)) rfl rfl rfl
theorem s_45_48 {K : gC} : gOk K g_Ms mi_45 48 (ga_iinc 2 1 51) := gs_iinc (by decide +kernel : decode mi_45.2.1 48 = .ok (.iinc 2 1, 3)) (by decide) rfl
theorem s_45_51 {K : gC} : gOk K g_Ms mi_45 51 (ga_goto 20) := gs_goto (by decide +kernel : decode mi_45.2.1 51 = .ok (.goto (-31), 3)) (by decide)
theorem s_45_54 {K : gC} : gOk K g_Ms mi_45 54 (ga_push (.int 1) 55) := gs_iconst (by decide +kernel : decode mi_45.2.1 54 = .ok (.iconst 1, 1)) (by decide) rfl
theorem s_45_55 {K : gC} : gOk K g_Ms mi_45 55 (ga_zret) := gs_zret (by decide +kernel : decode mi_45.2.1 55 = .ok (.ireturn, 1)) rfl rfl rfl
theorem ok_45 {K : gC} : ∀ e ∈ t_45, gOk K g_Ms mi_45 e.1 e.2 := by
  unfold t_45
  simp only [List.forall_mem_cons, List.not_mem_nil, false_implies, implies_true, and_true]
  exact ⟨s_45_0, s_45_1, s_45_4, s_45_5, s_45_8, s_45_9, s_45_10, s_45_13, s_45_16, s_45_17, s_45_18, s_45_19, s_45_20, s_45_21, s_45_22, s_45_25, s_45_28, s_45_29, s_45_30, s_45_33, s_45_34, s_45_35, s_45_38, s_45_39, s_45_40, s_45_43, s_45_46, s_45_47, s_45_48, s_45_51, s_45_54, s_45_55⟩
theorem s_46_0 {K : gC} : gOk K g_Ms mi_46 0 (ga_iload 0 1) := gs_iload_n (by decide +kernel : decode mi_46.2.1 0 = .ok (.iload_n 0, 1)) rfl rfl
theorem s_46_1 {K : gC} : gOk K g_Ms mi_46 1 (ga_switch 0 [52, 55, 58, 61, 64, 67, 70, 73, 76] 79) := gs_switch (by decide +kernel : decode mi_46.2.1 1 = .ok (.tableswitch 78 0 8 #[51, 54, 57, 60, 63, 66, 69, 72, 75], 51)) (by decide) (by decide) (by decide)
theorem s_46_52 {K : gC} : gOk K g_Ms mi_46 52 (ga_push (.ref 1010) 54) := gs_ldcS (j := 0) (by decide +kernel : decode mi_46.2.1 52 = .ok (.ldc 110, 2)) rfl rfl rfl rfl
theorem s_46_54 {K : gC} : gOk K g_Ms mi_46 54 (ga_aret) := gs_aret (by decide +kernel : decode mi_46.2.1 54 = .ok (.areturn, 1)) rfl
theorem s_46_55 {K : gC} : gOk K g_Ms mi_46 55 (ga_push (.ref 1011) 57) := gs_ldcS (j := 1) (by decide +kernel : decode mi_46.2.1 55 = .ok (.ldc 112, 2)) rfl rfl rfl rfl
theorem s_46_57 {K : gC} : gOk K g_Ms mi_46 57 (ga_aret) := gs_aret (by decide +kernel : decode mi_46.2.1 57 = .ok (.areturn, 1)) rfl
theorem s_46_58 {K : gC} : gOk K g_Ms mi_46 58 (ga_push (.ref 1012) 60) := gs_ldcS (j := 2) (by decide +kernel : decode mi_46.2.1 58 = .ok (.ldc 113, 2)) rfl rfl rfl rfl
theorem s_46_60 {K : gC} : gOk K g_Ms mi_46 60 (ga_aret) := gs_aret (by decide +kernel : decode mi_46.2.1 60 = .ok (.areturn, 1)) rfl
theorem s_46_61 {K : gC} : gOk K g_Ms mi_46 61 (ga_push (.ref 1013) 63) := gs_ldcS (j := 3) (by decide +kernel : decode mi_46.2.1 61 = .ok (.ldc 115, 2)) rfl rfl rfl rfl
theorem s_46_63 {K : gC} : gOk K g_Ms mi_46 63 (ga_aret) := gs_aret (by decide +kernel : decode mi_46.2.1 63 = .ok (.areturn, 1)) rfl
theorem s_46_64 {K : gC} : gOk K g_Ms mi_46 64 (ga_push (.ref 1014) 66) := gs_ldcS (j := 4) (by decide +kernel : decode mi_46.2.1 64 = .ok (.ldc 117, 2)) rfl rfl rfl rfl
theorem s_46_66 {K : gC} : gOk K g_Ms mi_46 66 (ga_aret) := gs_aret (by decide +kernel : decode mi_46.2.1 66 = .ok (.areturn, 1)) rfl
theorem s_46_67 {K : gC} : gOk K g_Ms mi_46 67 (ga_push (.ref 1015) 69) := gs_ldcS (j := 5) (by decide +kernel : decode mi_46.2.1 67 = .ok (.ldc 119, 2)) rfl rfl rfl rfl
theorem s_46_69 {K : gC} : gOk K g_Ms mi_46 69 (ga_aret) := gs_aret (by decide +kernel : decode mi_46.2.1 69 = .ok (.areturn, 1)) rfl
theorem s_46_70 {K : gC} : gOk K g_Ms mi_46 70 (ga_push (.ref 1016) 72) := gs_ldcS (j := 6) (by decide +kernel : decode mi_46.2.1 70 = .ok (.ldc 121, 2)) rfl rfl rfl rfl
theorem s_46_72 {K : gC} : gOk K g_Ms mi_46 72 (ga_aret) := gs_aret (by decide +kernel : decode mi_46.2.1 72 = .ok (.areturn, 1)) rfl
theorem s_46_73 {K : gC} : gOk K g_Ms mi_46 73 (ga_push (.ref 1017) 75) := gs_ldcS (j := 7) (by decide +kernel : decode mi_46.2.1 73 = .ok (.ldc 123, 2)) rfl rfl rfl rfl
theorem s_46_75 {K : gC} : gOk K g_Ms mi_46 75 (ga_aret) := gs_aret (by decide +kernel : decode mi_46.2.1 75 = .ok (.areturn, 1)) rfl
theorem s_46_76 {K : gC} : gOk K g_Ms mi_46 76 (ga_push (.ref 1018) 78) := gs_ldcS (j := 8) (by decide +kernel : decode mi_46.2.1 76 = .ok (.ldc 125, 2)) rfl rfl rfl rfl
theorem s_46_78 {K : gC} : gOk K g_Ms mi_46 78 (ga_aret) := gs_aret (by decide +kernel : decode mi_46.2.1 78 = .ok (.areturn, 1)) rfl
theorem s_46_79 {K : gC} : gOk K g_Ms mi_46 79 (ga_push (.ref 1019) 81) := gs_ldcS (j := 9) (by decide +kernel : decode mi_46.2.1 79 = .ok (.ldc 127, 2)) rfl rfl rfl rfl
theorem s_46_81 {K : gC} : gOk K g_Ms mi_46 81 (ga_aret) := gs_aret (by decide +kernel : decode mi_46.2.1 81 = .ok (.areturn, 1)) rfl
theorem ok_46 {K : gC} : ∀ e ∈ t_46, gOk K g_Ms mi_46 e.1 e.2 := by
  unfold t_46
  simp only [List.forall_mem_cons, List.not_mem_nil, false_implies, implies_true, and_true]
  exact ⟨s_46_0, s_46_1, s_46_52, s_46_54, s_46_55, s_46_57, s_46_58, s_46_60, s_46_61, s_46_63, s_46_64, s_46_66, s_46_67, s_46_69, s_46_70, s_46_72, s_46_73, s_46_75, s_46_76, s_46_78, s_46_79, s_46_81⟩
theorem s_47_0 {K : gC} : gOk K g_Ms mi_47 0 (ga_iload 0 1) := gs_iload_n (by decide +kernel : decode mi_47.2.1 0 = .ok (.iload_n 0, 1)) rfl rfl
theorem s_47_1 {K : gC} : gOk K g_Ms mi_47 1 (ga_push (.int 97) 3) := gs_bipush (by decide +kernel : decode mi_47.2.1 1 = .ok (.bipush 97, 2)) (by decide) rfl
theorem s_47_3 {K : gC} : gOk K g_Ms mi_47 3 (ga_cmp (fun x y => decide (x < y)) 16 6) := gs_cmp_lt (by decide +kernel : decode mi_47.2.1 3 = .ok (.if_icmp .lt 13, 3)) (by decide) rfl
theorem s_47_6 {K : gC} : gOk K g_Ms mi_47 6 (ga_iload 0 7) := gs_iload_n (by decide +kernel : decode mi_47.2.1 6 = .ok (.iload_n 0, 1)) rfl rfl
theorem s_47_7 {K : gC} : gOk K g_Ms mi_47 7 (ga_push (.int 122) 9) := gs_bipush (by decide +kernel : decode mi_47.2.1 7 = .ok (.bipush 122, 2)) (by decide) rfl
theorem s_47_9 {K : gC} : gOk K g_Ms mi_47 9 (ga_cmp (fun x y => decide (y < x)) 16 12) := gs_cmp_gt (by decide +kernel : decode mi_47.2.1 9 = .ok (.if_icmp .gt 7, 3)) (by decide) rfl
theorem s_47_12 {K : gC} : gOk K g_Ms mi_47 12 (ga_push (.int 1) 13) := gs_iconst (by decide +kernel : decode mi_47.2.1 12 = .ok (.iconst 1, 1)) (by decide) rfl
theorem s_47_13 {K : gC} : gOk K g_Ms mi_47 13 (ga_goto 17) := gs_goto (by decide +kernel : decode mi_47.2.1 13 = .ok (.goto 4, 3)) (by decide)
theorem s_47_16 {K : gC} : gOk K g_Ms mi_47 16 (ga_push (.int 0) 17) := gs_iconst (by decide +kernel : decode mi_47.2.1 16 = .ok (.iconst 0, 1)) (by decide) rfl
theorem s_47_17 {K : gC} : gOk K g_Ms mi_47 17 (ga_zret) := gs_zret (by decide +kernel : decode mi_47.2.1 17 = .ok (.ireturn, 1)) rfl rfl rfl
theorem ok_47 {K : gC} : ∀ e ∈ t_47, gOk K g_Ms mi_47 e.1 e.2 := by
  unfold t_47
  simp only [List.forall_mem_cons, List.not_mem_nil, false_implies, implies_true, and_true]
  exact ⟨s_47_0, s_47_1, s_47_3, s_47_6, s_47_7, s_47_9, s_47_12, s_47_13, s_47_16, s_47_17⟩
theorem s_48_0 {K : gC} : gOk K g_Ms mi_48 0 (ga_iload 0 1) := gs_iload_n (by decide +kernel : decode mi_48.2.1 0 = .ok (.iload_n 0, 1)) rfl rfl
theorem s_48_1 {K : gC} : gOk K g_Ms mi_48 1 (ga_push (.int 48) 3) := gs_bipush (by decide +kernel : decode mi_48.2.1 1 = .ok (.bipush 48, 2)) (by decide) rfl
theorem s_48_3 {K : gC} : gOk K g_Ms mi_48 3 (ga_cmp (fun x y => decide (x < y)) 16 6) := gs_cmp_lt (by decide +kernel : decode mi_48.2.1 3 = .ok (.if_icmp .lt 13, 3)) (by decide) rfl
theorem s_48_6 {K : gC} : gOk K g_Ms mi_48 6 (ga_iload 0 7) := gs_iload_n (by decide +kernel : decode mi_48.2.1 6 = .ok (.iload_n 0, 1)) rfl rfl
theorem s_48_7 {K : gC} : gOk K g_Ms mi_48 7 (ga_push (.int 57) 9) := gs_bipush (by decide +kernel : decode mi_48.2.1 7 = .ok (.bipush 57, 2)) (by decide) rfl
theorem s_48_9 {K : gC} : gOk K g_Ms mi_48 9 (ga_cmp (fun x y => decide (y < x)) 16 12) := gs_cmp_gt (by decide +kernel : decode mi_48.2.1 9 = .ok (.if_icmp .gt 7, 3)) (by decide) rfl
theorem s_48_12 {K : gC} : gOk K g_Ms mi_48 12 (ga_push (.int 1) 13) := gs_iconst (by decide +kernel : decode mi_48.2.1 12 = .ok (.iconst 1, 1)) (by decide) rfl
theorem s_48_13 {K : gC} : gOk K g_Ms mi_48 13 (ga_goto 17) := gs_goto (by decide +kernel : decode mi_48.2.1 13 = .ok (.goto 4, 3)) (by decide)
theorem s_48_16 {K : gC} : gOk K g_Ms mi_48 16 (ga_push (.int 0) 17) := gs_iconst (by decide +kernel : decode mi_48.2.1 16 = .ok (.iconst 0, 1)) (by decide) rfl
theorem s_48_17 {K : gC} : gOk K g_Ms mi_48 17 (ga_zret) := gs_zret (by decide +kernel : decode mi_48.2.1 17 = .ok (.ireturn, 1)) rfl rfl rfl
theorem ok_48 {K : gC} : ∀ e ∈ t_48, gOk K g_Ms mi_48 e.1 e.2 := by
  unfold t_48
  simp only [List.forall_mem_cons, List.not_mem_nil, false_implies, implies_true, and_true]
  exact ⟨s_48_0, s_48_1, s_48_3, s_48_6, s_48_7, s_48_9, s_48_12, s_48_13, s_48_16, s_48_17⟩
theorem s_49_0 {K : gC} : gOk K g_Ms mi_49 0 (ga_iload 1 1) := gs_iload_n (by decide +kernel : decode mi_49.2.1 0 = .ok (.iload_n 1, 1)) rfl rfl
theorem s_49_1 {K : gC} : gOk K g_Ms mi_49 1 (ga_if (fun x => decide (x < 0)) 28 4) := gs_if_lt (by decide +kernel : decode mi_49.2.1 1 = .ok (.ifCond .lt 27, 3)) (by decide) rfl
theorem s_49_4 {K : gC} : gOk K g_Ms mi_49 4 (ga_iload 1 5) := gs_iload_n (by decide +kernel : decode mi_49.2.1 4 = .ok (.iload_n 1, 1)) rfl rfl
theorem s_49_5 {K : gC} : gOk K g_Ms mi_49 5 (ga_aload 0 6) := gs_aload_n (by decide +kernel : decode mi_49.2.1 5 = .ok (.aload_n 0, 1)) rfl rfl
theorem s_49_6 {K : gC} : gOk K g_Ms mi_49 6 (ga_getI 4 1 9) := gs_getI gcls_4 (by decide) (by decide) gw_68 (by decide +kernel : decode mi_49.2.1 6 = .ok (.getfield 15, 3)) rfl
theorem s_49_9 {K : gC} : gOk K g_Ms mi_49 9 (ga_cmp (fun x y => decide (y ≤ x)) 28 12) := gs_cmp_ge (by decide +kernel : decode mi_49.2.1 9 = .ok (.if_icmp .ge 19, 3)) (by decide) rfl
theorem s_49_12 {K : gC} : gOk K g_Ms mi_49 12 (ga_iload 1 13) := gs_iload_n (by decide +kernel : decode mi_49.2.1 12 = .ok (.iload_n 1, 1)) rfl rfl
theorem s_49_13 {K : gC} : gOk K g_Ms mi_49 13 (ga_push (.int 200) 16) := gs_sipush (by decide +kernel : decode mi_49.2.1 13 = .ok (.sipush 200, 3)) (by decide) rfl
theorem s_49_16 {K : gC} : gOk K g_Ms mi_49 16 (ga_cmp (fun x y => decide (y ≤ x)) 28 19) := gs_cmp_ge (by decide +kernel : decode mi_49.2.1 16 = .ok (.if_icmp .ge 12, 3)) (by decide) rfl
theorem s_49_19 {K : gC} : gOk K g_Ms mi_49 19 (ga_aload 0 20) := gs_aload_n (by decide +kernel : decode mi_49.2.1 19 = .ok (.aload_n 0, 1)) rfl rfl
theorem s_49_20 {K : gC} : gOk K g_Ms mi_49 20 (ga_getR 4 0 23) := gs_getR gcls_4 (by decide) (by decide) gw_67 (by decide +kernel : decode mi_49.2.1 20 = .ok (.getfield 9, 3)) rfl
theorem s_49_23 {K : gC} : gOk K g_Ms mi_49 23 (ga_iload 1 24) := gs_iload_n (by decide +kernel : decode mi_49.2.1 23 = .ok (.iload_n 1, 1)) rfl rfl
theorem s_49_24 {K : gC} : gOk K g_Ms mi_49 24 (ga_iald 25) := gs_iald (by decide +kernel : decode mi_49.2.1 24 = .ok (.iaload, 1)) rfl
theorem s_49_25 {K : gC} : gOk K g_Ms mi_49 25 (ga_goto 29) := gs_goto (by decide +kernel : decode mi_49.2.1 25 = .ok (.goto 4, 3)) (by decide)
theorem s_49_28 {K : gC} : gOk K g_Ms mi_49 28 (ga_push (.int (-1)) 29) := gs_iconst (by decide +kernel : decode mi_49.2.1 28 = .ok (.iconst (-1), 1)) (by decide) rfl
theorem s_49_29 {K : gC} : gOk K g_Ms mi_49 29 (ga_iret) := gs_iret (by decide +kernel : decode mi_49.2.1 29 = .ok (.ireturn, 1)) rfl
theorem ok_49 {K : gC} : ∀ e ∈ t_49, gOk K g_Ms mi_49 e.1 e.2 := by
  unfold t_49
  simp only [List.forall_mem_cons, List.not_mem_nil, false_implies, implies_true, and_true]
  exact ⟨s_49_0, s_49_1, s_49_4, s_49_5, s_49_6, s_49_9, s_49_12, s_49_13, s_49_16, s_49_19, s_49_20, s_49_23, s_49_24, s_49_25, s_49_28, s_49_29⟩
theorem s_50_0 {K : gC} : gOk K g_Ms mi_50 0 (ga_aload 0 1) := gs_aload_n (by decide +kernel : decode mi_50.2.1 0 = .ok (.aload_n 0, 1)) rfl rfl
theorem s_50_1 {K : gC} : gOk K g_Ms mi_50 1 (ga_oinit 4) := gs_oinit gw_199 gw_59 gw_objc (by decide) (by decide) (by decide +kernel : decode mi_50.2.1 1 = .ok (.invokespecial 3, 3)) rfl
theorem s_50_4 {K : gC} : gOk K g_Ms mi_50 4 (ga_vret) := gs_vret (by decide +kernel : decode mi_50.2.1 4 = .ok (.return_, 1)) rfl
theorem ok_50 {K : gC} : ∀ e ∈ t_50, gOk K g_Ms mi_50 e.1 e.2 := by
  unfold t_50
  simp only [List.forall_mem_cons, List.not_mem_nil, false_implies, implies_true, and_true]
  exact ⟨s_50_0, s_50_1, s_50_4⟩
theorem s_51_0 {K : gC} : gOk K g_Ms mi_51 0 (ga_aload 0 1) := gs_aload_n (by decide +kernel : decode mi_51.2.1 0 = .ok (.aload_n 0, 1)) rfl rfl
theorem s_51_1 {K : gC} : gOk K g_Ms mi_51 1 (ga_push (.int 0) 2) := gs_iconst (by decide +kernel : decode mi_51.2.1 1 = .ok (.iconst 0, 1)) (by decide) rfl
theorem s_51_2 {K : gC} : gOk K g_Ms mi_51 2 (ga_putI 5 0 5) := gs_putI gcls_5 (by decide) (by decide) rfl rfl gw_200 (by decide +kernel : decode mi_51.2.1 2 = .ok (.putfield 9, 3)) rfl
theorem s_51_5 {K : gC} : gOk K g_Ms mi_51 5 (ga_aload 0 6) := gs_aload_n (by decide +kernel : decode mi_51.2.1 5 = .ok (.aload_n 0, 1)) rfl rfl
theorem s_51_6 {K : gC} : gOk K g_Ms mi_51 6 (ga_push (.int 0) 7) := gs_iconst (by decide +kernel : decode mi_51.2.1 6 = .ok (.iconst 0, 1)) (by decide) rfl
theorem s_51_7 {K : gC} : gOk K g_Ms mi_51 7 (ga_putI 5 1 10) := gs_putI gcls_5 (by decide) (by decide) rfl rfl gw_202 (by decide +kernel : decode mi_51.2.1 7 = .ok (.putfield 15, 3)) rfl
theorem s_51_10 {K : gC} : gOk K g_Ms mi_51 10 (ga_aload 0 11) := gs_aload_n (by decide +kernel : decode mi_51.2.1 10 = .ok (.aload_n 0, 1)) rfl rfl
theorem s_51_11 {K : gC} : gOk K g_Ms mi_51 11 (ga_push (.int 0) 12) := gs_iconst (by decide +kernel : decode mi_51.2.1 11 = .ok (.iconst 0, 1)) (by decide) rfl
theorem s_51_12 {K : gC} : gOk K g_Ms mi_51 12 (ga_putI 5 2 15) := gs_putI gcls_5 (by decide) (by decide) rfl rfl gw_204 (by decide +kernel : decode mi_51.2.1 12 = .ok (.putfield 18, 3)) rfl
theorem s_51_15 {K : gC} : gOk K g_Ms mi_51 15 (ga_iload 5 17) := gs_iload (by decide +kernel : decode mi_51.2.1 15 = .ok (.iload 5, 2)) rfl
theorem s_51_17 {K : gC} : gOk K g_Ms mi_51 17 (ga_istore 6 19) := gs_istore (by decide +kernel : decode mi_51.2.1 17 = .ok (.istore 6, 2)) rfl
theorem s_51_19 {K : gC} : gOk K g_Ms mi_51 19 (ga_push (.int 0) 20) := gs_iconst (by decide +kernel : decode mi_51.2.1 19 = .ok (.iconst 0, 1)) (by decide) rfl
theorem s_51_20 {K : gC} : gOk K g_Ms mi_51 20 (ga_istore 7 22) := gs_istore (by decide +kernel : decode mi_51.2.1 20 = .ok (.istore 7, 2)) rfl
theorem s_51_22 {K : gC} : gOk K g_Ms mi_51 22 (ga_iload 7 24) := gs_iload (by decide +kernel : decode mi_51.2.1 22 = .ok (.iload 7, 2)) rfl
theorem s_51_24 {K : gC} : gOk K g_Ms mi_51 24 (ga_push (.int 10) 26) := gs_bipush (by decide +kernel : decode mi_51.2.1 24 = .ok (.bipush 10, 2)) (by decide) rfl
theorem s_51_26 {K : gC} : gOk K g_Ms mi_51 26 (ga_cmp (fun x y => decide (y ≤ x)) 122 29) := gs_cmp_ge (by decide +kernel : decode mi_51.2.1 26 = .ok (.if_icmp .ge 96, 3)) (by decide) rfl
theorem s_51_29 {K : gC} : gOk K g_Ms mi_51 29 (ga_iload 6 31) := gs_iload (by decide +kernel : decode mi_51.2.1 29 = .ok (.iload 6, 2)) rfl
theorem s_51_31 {K : gC} : gOk K g_Ms mi_51 31 (ga_iload 3 32) := gs_iload_n (by decide +kernel : decode mi_51.2.1 31 = .ok (.iload_n 3, 1)) rfl rfl
theorem s_51_32 {K : gC} : gOk K g_Ms mi_51 32 (ga_cmp (fun x y => decide (x = y)) 45 35) := gs_cmp_eq (by decide +kernel : decode mi_51.2.1 32 = .ok (.if_icmp .eq 13, 3)) (by decide) rfl
theorem s_51_35 {K : gC} : gOk K g_Ms mi_51 35 (ga_aload 1 36) := gs_aload_n (by decide +kernel : decode mi_51.2.1 35 = .ok (.aload_n 1, 1)) rfl rfl
theorem s_51_36 {K : gC} : gOk K g_Ms mi_51 36 (ga_iload 6 38) := gs_iload (by decide +kernel : decode mi_51.2.1 36 = .ok (.iload 6, 2)) rfl
theorem s_51_38 {K : gC} : gOk K g_Ms mi_51 38 (ga_iload 2 39) := gs_iload_n (by decide +kernel : decode mi_51.2.1 38 = .ok (.iload_n 2, 1)) rfl rfl
theorem s_51_39 {K : gC} : gOk K g_Ms mi_51 39 (ga_callV 0 4 2 42) := gs_callV gcls_0 (gce_X0_canHear (by decide) (by decide)) gw_512 gw_421 gw_422 (by decide +kernel : decode mi_51.2.1 39 = .ok (.invokevirtual 21, 3)) rfl
theorem s_51_42 {K : gC} : gOk K g_Ms mi_51 42 (ga_if (fun x => decide (¬ x = 0)) 47 45) := gs_if_ne (by decide +kernel : decode mi_51.2.1 42 = .ok (.ifCond .ne 5, 3)) (by decide) rfl
theorem s_51_45 {K : gC} : gOk K g_Ms mi_51 45 (ga_push (.int 0) 46) := gs_iconst (by decide +kernel : decode mi_51.2.1 45 = .ok (.iconst 0, 1)) (by decide) rfl
theorem s_51_46 {K : gC} : gOk K g_Ms mi_51 46 (ga_zret) := gs_zret (by decide +kernel : decode mi_51.2.1 46 = .ok (.ireturn, 1)) rfl rfl rfl
theorem s_51_47 {K : gC} : gOk K g_Ms mi_51 47 (ga_aload 0 48) := gs_aload_n (by decide +kernel : decode mi_51.2.1 47 = .ok (.aload_n 0, 1)) rfl rfl
theorem s_51_48 {K : gC} : gOk K g_Ms mi_51 48 (ga_dup 49) := gs_dup (by decide +kernel : decode mi_51.2.1 48 = .ok (.dup, 1)) rfl
theorem s_51_49 {K : gC} : gOk K g_Ms mi_51 49 (ga_getI 5 0 52) := gs_getI gcls_5 (by decide) (by decide) gw_200 (by decide +kernel : decode mi_51.2.1 49 = .ok (.getfield 9, 3)) rfl
theorem s_51_52 {K : gC} : gOk K g_Ms mi_51 52 (ga_aload 1 53) := gs_aload_n (by decide +kernel : decode mi_51.2.1 52 = .ok (.aload_n 1, 1)) rfl rfl
theorem s_51_53 {K : gC} : gOk K g_Ms mi_51 53 (ga_iload 6 55) := gs_iload (by decide +kernel : decode mi_51.2.1 53 = .ok (.iload 6, 2)) rfl
theorem s_51_55 {K : gC} : gOk K g_Ms mi_51 55 (ga_iload 2 56) := gs_iload_n (by decide +kernel : decode mi_51.2.1 55 = .ok (.iload_n 2, 1)) rfl rfl
theorem s_51_56 {K : gC} : gOk K g_Ms mi_51 56 (ga_callV 0 5 2 59) := gs_callV gcls_0 (gce_X0_late (by decide) (by decide)) gw_513 gw_433 gw_434 (by decide +kernel : decode mi_51.2.1 56 = .ok (.invokevirtual 27, 3)) rfl
theorem s_51_59 {K : gC} : gOk K g_Ms mi_51 59 (ga_bin (fun x y => x + y) 60) := gs_iadd (by decide +kernel : decode mi_51.2.1 59 = .ok (.iadd, 1)) rfl
theorem s_51_60 {K : gC} : gOk K g_Ms mi_51 60 (ga_putI 5 0 63) := gs_putI gcls_5 (by decide) (by decide) rfl rfl gw_200 (by decide +kernel : decode mi_51.2.1 60 = .ok (.putfield 9, 3)) rfl
theorem s_51_63 {K : gC} : gOk K g_Ms mi_51 63 (ga_aload 0 64) := gs_aload_n (by decide +kernel : decode mi_51.2.1 63 = .ok (.aload_n 0, 1)) rfl rfl
theorem s_51_64 {K : gC} : gOk K g_Ms mi_51 64 (ga_dup 65) := gs_dup (by decide +kernel : decode mi_51.2.1 64 = .ok (.dup, 1)) rfl
theorem s_51_65 {K : gC} : gOk K g_Ms mi_51 65 (ga_getI 5 1 68) := gs_getI gcls_5 (by decide) (by decide) gw_202 (by decide +kernel : decode mi_51.2.1 65 = .ok (.getfield 15, 3)) rfl
theorem s_51_68 {K : gC} : gOk K g_Ms mi_51 68 (ga_aload 1 69) := gs_aload_n (by decide +kernel : decode mi_51.2.1 68 = .ok (.aload_n 1, 1)) rfl rfl
theorem s_51_69 {K : gC} : gOk K g_Ms mi_51 69 (ga_getR 0 2 72) := gs_getR gcls_0 (by decide) (by decide) gw_111 (by decide +kernel : decode mi_51.2.1 69 = .ok (.getfield 31, 3)) rfl
theorem s_51_72 {K : gC} : gOk K g_Ms mi_51 72 (ga_iload 6 74) := gs_iload (by decide +kernel : decode mi_51.2.1 72 = .ok (.iload 6, 2)) rfl
theorem s_51_74 {K : gC} : gOk K g_Ms mi_51 74 (ga_iald 75) := gs_iald (by decide +kernel : decode mi_51.2.1 74 = .ok (.iaload, 1)) rfl
theorem s_51_75 {K : gC} : gOk K g_Ms mi_51 75 (ga_push (.int 3) 76) := gs_iconst (by decide +kernel : decode mi_51.2.1 75 = .ok (.iconst 3, 1)) (by decide) rfl
theorem s_51_76 {K : gC} : gOk K g_Ms mi_51 76 (ga_cmp (fun x y => decide (¬ x = y)) 83 79) := gs_cmp_ne (by decide +kernel : decode mi_51.2.1 76 = .ok (.if_icmp .ne 7, 3)) (by decide) rfl
theorem s_51_79 {K : gC} : gOk K g_Ms mi_51 79 (ga_push (.int 1) 80) := gs_iconst (by decide +kernel : decode mi_51.2.1 79 = .ok (.iconst 1, 1)) (by decide) rfl
theorem s_51_80 {K : gC} : gOk K g_Ms mi_51 80 (ga_goto 84) := gs_goto (by decide +kernel : decode mi_51.2.1 80 = .ok (.goto 4, 3)) (by decide)
theorem s_51_83 {K : gC} : gOk K g_Ms mi_51 83 (ga_push (.int 0) 84) := gs_iconst (by decide +kernel : decode mi_51.2.1 83 = .ok (.iconst 0, 1)) (by decide) rfl
theorem s_51_84 {K : gC} : gOk K g_Ms mi_51 84 (ga_bin (fun x y => x + y) 85) := gs_iadd (by decide +kernel : decode mi_51.2.1 84 = .ok (.iadd, 1)) rfl
theorem s_51_85 {K : gC} : gOk K g_Ms mi_51 85 (ga_putI 5 1 88) := gs_putI gcls_5 (by decide) (by decide) rfl rfl gw_202 (by decide +kernel : decode mi_51.2.1 85 = .ok (.putfield 15, 3)) rfl
theorem s_51_88 {K : gC} : gOk K g_Ms mi_51 88 (ga_aload 0 89) := gs_aload_n (by decide +kernel : decode mi_51.2.1 88 = .ok (.aload_n 0, 1)) rfl rfl
theorem s_51_89 {K : gC} : gOk K g_Ms mi_51 89 (ga_dup 90) := gs_dup (by decide +kernel : decode mi_51.2.1 89 = .ok (.dup, 1)) rfl
theorem s_51_90 {K : gC} : gOk K g_Ms mi_51 90 (ga_getI 5 2 93) := gs_getI gcls_5 (by decide) (by decide) gw_204 (by decide +kernel : decode mi_51.2.1 90 = .ok (.getfield 18, 3)) rfl
theorem s_51_93 {K : gC} : gOk K g_Ms mi_51 93 (ga_push (.int 1) 94) := gs_iconst (by decide +kernel : decode mi_51.2.1 93 = .ok (.iconst 1, 1)) (by decide) rfl
theorem s_51_94 {K : gC} : gOk K g_Ms mi_51 94 (ga_bin (fun x y => x + y) 95) := gs_iadd (by decide +kernel : decode mi_51.2.1 94 = .ok (.iadd, 1)) rfl
theorem s_51_95 {K : gC} : gOk K g_Ms mi_51 95 (ga_putI 5 2 98) := gs_putI gcls_5 (by decide) (by decide) rfl rfl gw_204 (by decide +kernel : decode mi_51.2.1 95 = .ok (.putfield 18, 3)) rfl
theorem s_51_98 {K : gC} : gOk K g_Ms mi_51 98 (ga_aload 1 99) := gs_aload_n (by decide +kernel : decode mi_51.2.1 98 = .ok (.aload_n 1, 1)) rfl rfl
theorem s_51_99 {K : gC} : gOk K g_Ms mi_51 99 (ga_getR 0 0 102) := gs_getR gcls_0 (by decide) (by decide) gw_103 (by decide +kernel : decode mi_51.2.1 99 = .ok (.getfield 35, 3)) rfl
theorem s_51_102 {K : gC} : gOk K g_Ms mi_51 102 (ga_iload 6 104) := gs_iload (by decide +kernel : decode mi_51.2.1 102 = .ok (.iload 6, 2)) rfl
theorem s_51_104 {K : gC} : gOk K g_Ms mi_51 104 (ga_iald 105) := gs_iald (by decide +kernel : decode mi_51.2.1 104 = .ok (.iaload, 1)) rfl
theorem s_51_105 {K : gC} : gOk K g_Ms mi_51 105 (ga_istore 6 107) := gs_istore (by decide +kernel : decode mi_51.2.1 105 = .ok (.istore 6, 2)) rfl
theorem s_51_107 {K : gC} : gOk K g_Ms mi_51 107 (ga_iload 6 109) := gs_iload (by decide +kernel : decode mi_51.2.1 107 = .ok (.iload 6, 2)) rfl
theorem s_51_109 {K : gC} : gOk K g_Ms mi_51 109 (ga_iload 4 111) := gs_iload (by decide +kernel : decode mi_51.2.1 109 = .ok (.iload 4, 2)) rfl
theorem s_51_111 {K : gC} : gOk K g_Ms mi_51 111 (ga_cmp (fun x y => decide (¬ x = y)) 116 114) := gs_cmp_ne (by decide +kernel : decode mi_51.2.1 111 = .ok (.if_icmp .ne 5, 3)) (by decide) rfl
theorem s_51_114 {K : gC} : gOk K g_Ms mi_51 114 (ga_push (.int 1) 115) := gs_iconst (by decide +kernel : decode mi_51.2.1 114 = .ok (.iconst 1, 1)) (by decide) rfl
theorem s_51_115 {K : gC} : gOk K g_Ms mi_51 115 (ga_zret) := gs_zret (by decide +kernel : decode mi_51.2.1 115 = .ok (.ireturn, 1)) rfl rfl rfl
theorem s_51_116 {K : gC} : gOk K g_Ms mi_51 116 (ga_iinc 7 1 119) := gs_iinc (by decide +kernel : decode mi_51.2.1 116 = .ok (.iinc 7 1, 3)) (by decide) rfl
theorem s_51_119 {K : gC} : gOk K g_Ms mi_51 119 (ga_goto 22) := gs_goto (by decide +kernel : decode mi_51.2.1 119 = .ok (.goto (-97), 3)) (by decide)
theorem s_51_122 {K : gC} : gOk K g_Ms mi_51 122 (ga_push (.int 0) 123) := gs_iconst (by decide +kernel : decode mi_51.2.1 122 = .ok (.iconst 0, 1)) (by decide) rfl
theorem s_51_123 {K : gC} : gOk K g_Ms mi_51 123 (ga_zret) := gs_zret (by decide +kernel : decode mi_51.2.1 123 = .ok (.ireturn, 1)) rfl rfl rfl
theorem ok_51 {K : gC} : ∀ e ∈ t_51, gOk K g_Ms mi_51 e.1 e.2 := by
  unfold t_51
  simp only [List.forall_mem_cons, List.not_mem_nil, false_implies, implies_true, and_true]
  exact ⟨s_51_0, s_51_1, s_51_2, s_51_5, s_51_6, s_51_7, s_51_10, s_51_11, s_51_12, s_51_15, s_51_17, s_51_19, s_51_20, s_51_22, s_51_24, s_51_26, s_51_29, s_51_31, s_51_32, s_51_35, s_51_36, s_51_38, s_51_39, s_51_42, s_51_45, s_51_46, s_51_47, s_51_48, s_51_49, s_51_52, s_51_53, s_51_55, s_51_56, s_51_59, s_51_60, s_51_63, s_51_64, s_51_65, s_51_68, s_51_69, s_51_72, s_51_74, s_51_75, s_51_76, s_51_79, s_51_80, s_51_83, s_51_84, s_51_85, s_51_88, s_51_89, s_51_90, s_51_93, s_51_94, s_51_95, s_51_98, s_51_99, s_51_102, s_51_104, s_51_105, s_51_107, s_51_109, s_51_111, s_51_114, s_51_115, s_51_116, s_51_119, s_51_122, s_51_123⟩
