theorem s_52_0 {K : gC} : gOk K g_Ms mi_52 0 (ga_aload 0 1) := gs_aload_n (by decide +kernel : decode mi_52.2.1 0 = .ok (.aload_n 0, 1)) rfl rfl
theorem s_52_1 {K : gC} : gOk K g_Ms mi_52 1 (ga_oinit 4) := gs_oinit gw_58 gw_59 gw_objc (by decide) (by decide) (by decide +kernel : decode mi_52.2.1 1 = .ok (.invokespecial 3, 3)) rfl
theorem s_52_4 {K : gC} : gOk K g_Ms mi_52 4 (ga_aload 0 5) := gs_aload_n (by decide +kernel : decode mi_52.2.1 4 = .ok (.aload_n 0, 1)) rfl rfl
theorem s_52_5 {K : gC} : gOk K g_Ms mi_52 5 (ga_new 4 6 8) := gs_new gcls_4 gw_61 (by decide +kernel : decode mi_52.2.1 5 = .ok (.new 9, 3)) rfl
theorem s_52_8 {K : gC} : gOk K g_Ms mi_52 8 (ga_dup 9) := gs_dup (by decide +kernel : decode mi_52.2.1 8 = .ok (.dup, 1)) rfl
theorem s_52_9 {K : gC} : gOk K g_Ms mi_52 9 (ga_callI 34 0 12) := gs_callI (gce_X4_init (by decide) (by decide)) gw_63 gw_64 rfl rfl (by decide +kernel : decode mi_52.2.1 9 = .ok (.invokespecial 11, 3)) rfl
theorem s_52_12 {K : gC} : gOk K g_Ms mi_52 12 (ga_putR 6 0 15) := gs_putR gcls_6 (by decide) (by decide) (fun _ => ⟨rfl, rfl⟩) rfl rfl rfl gw_242 (by decide +kernel : decode mi_52.2.1 12 = .ok (.putfield 12, 3)) rfl
theorem s_52_15 {K : gC} : gOk K g_Ms mi_52 15 (ga_aload 0 16) := gs_aload_n (by decide +kernel : decode mi_52.2.1 15 = .ok (.aload_n 0, 1)) rfl rfl
theorem s_52_16 {K : gC} : gOk K g_Ms mi_52 16 (ga_new 0 6 19) := gs_new gcls_0 gw_89 (by decide +kernel : decode mi_52.2.1 16 = .ok (.new 16, 3)) rfl
theorem s_52_19 {K : gC} : gOk K g_Ms mi_52 19 (ga_dup 20) := gs_dup (by decide +kernel : decode mi_52.2.1 19 = .ok (.dup, 1)) rfl
theorem s_52_20 {K : gC} : gOk K g_Ms mi_52 20 (ga_callI 0 0 23) := gs_callI (gce_X0_init (by decide) (by decide)) gw_91 gw_92 rfl rfl (by decide +kernel : decode mi_52.2.1 20 = .ok (.invokespecial 18, 3)) rfl
theorem s_52_23 {K : gC} : gOk K g_Ms mi_52 23 (ga_putR 6 1 26) := gs_putR gcls_6 (by decide) (by decide) (fun _ => ⟨rfl, rfl⟩) rfl rfl rfl gw_243 (by decide +kernel : decode mi_52.2.1 23 = .ok (.putfield 19, 3)) rfl
theorem s_52_26 {K : gC} : gOk K g_Ms mi_52 26 (ga_aload 0 27) := gs_aload_n (by decide +kernel : decode mi_52.2.1 26 = .ok (.aload_n 0, 1)) rfl rfl
theorem s_52_27 {K : gC} : gOk K g_Ms mi_52 27 (ga_new 0 6 30) := gs_new gcls_0 gw_89 (by decide +kernel : decode mi_52.2.1 27 = .ok (.new 16, 3)) rfl
theorem s_52_30 {K : gC} : gOk K g_Ms mi_52 30 (ga_dup 31) := gs_dup (by decide +kernel : decode mi_52.2.1 30 = .ok (.dup, 1)) rfl
theorem s_52_31 {K : gC} : gOk K g_Ms mi_52 31 (ga_callI 0 0 34) := gs_callI (gce_X0_init (by decide) (by decide)) gw_91 gw_92 rfl rfl (by decide +kernel : decode mi_52.2.1 31 = .ok (.invokespecial 18, 3)) rfl
theorem s_52_34 {K : gC} : gOk K g_Ms mi_52 34 (ga_putR 6 2 37) := gs_putR gcls_6 (by decide) (by decide) (fun _ => ⟨rfl, rfl⟩) rfl rfl rfl gw_244 (by decide +kernel : decode mi_52.2.1 34 = .ok (.putfield 23, 3)) rfl
theorem s_52_37 {K : gC} : gOk K g_Ms mi_52 37 (ga_aload 0 38) := gs_aload_n (by decide +kernel : decode mi_52.2.1 37 = .ok (.aload_n 0, 1)) rfl rfl
theorem s_52_38 {K : gC} : gOk K g_Ms mi_52 38 (ga_new 2 5 41) := gs_new gcls_2 gw_140 (by decide +kernel : decode mi_52.2.1 38 = .ok (.new 26, 3)) rfl
theorem s_52_41 {K : gC} : gOk K g_Ms mi_52 41 (ga_dup 42) := gs_dup (by decide +kernel : decode mi_52.2.1 41 = .ok (.dup, 1)) rfl
theorem s_52_42 {K : gC} : gOk K g_Ms mi_52 42 (ga_callI 22 0 45) := gs_callI (gce_X2_init (by decide) (by decide)) gw_142 gw_143 rfl rfl (by decide +kernel : decode mi_52.2.1 42 = .ok (.invokespecial 28, 3)) rfl
theorem s_52_45 {K : gC} : gOk K g_Ms mi_52 45 (ga_putR 6 3 48) := gs_putR gcls_6 (by decide) (by decide) (fun _ => ⟨rfl, rfl⟩) rfl rfl rfl gw_245 (by decide +kernel : decode mi_52.2.1 45 = .ok (.putfield 29, 3)) rfl
theorem s_52_48 {K : gC} : gOk K g_Ms mi_52 48 (ga_aload 0 49) := gs_aload_n (by decide +kernel : decode mi_52.2.1 48 = .ok (.aload_n 0, 1)) rfl rfl
theorem s_52_49 {K : gC} : gOk K g_Ms mi_52 49 (ga_push (.int 2) 50) := gs_iconst (by decide +kernel : decode mi_52.2.1 49 = .ok (.iconst 2, 1)) (by decide) rfl
theorem s_52_50 {K : gC} : gOk K g_Ms mi_52 50 (ga_newa 11 53) := gs_newq gw_140 (by decide +kernel : decode mi_52.2.1 50 = .ok (.anewarray 26, 3)) rfl
theorem s_52_53 {K : gC} : gOk K g_Ms mi_52 53 (ga_putR 6 4 56) := gs_putR gcls_6 (by decide) (by decide) (fun _ => ⟨rfl, rfl⟩) rfl rfl rfl gw_246 (by decide +kernel : decode mi_52.2.1 53 = .ok (.putfield 33, 3)) rfl
theorem s_52_56 {K : gC} : gOk K g_Ms mi_52 56 (ga_push (.int 0) 57) := gs_iconst (by decide +kernel : decode mi_52.2.1 56 = .ok (.iconst 0, 1)) (by decide) rfl
theorem s_52_57 {K : gC} : gOk K g_Ms mi_52 57 (ga_istore 1 58) := gs_istore_n (by decide +kernel : decode mi_52.2.1 57 = .ok (.istore_n 1, 1)) rfl rfl
theorem s_52_58 {K : gC} : gOk K g_Ms mi_52 58 (ga_iload 1 59) := gs_iload_n (by decide +kernel : decode mi_52.2.1 58 = .ok (.iload_n 1, 1)) rfl rfl
theorem s_52_59 {K : gC} : gOk K g_Ms mi_52 59 (ga_push (.int 2) 60) := gs_iconst (by decide +kernel : decode mi_52.2.1 59 = .ok (.iconst 2, 1)) (by decide) rfl
theorem s_52_60 {K : gC} : gOk K g_Ms mi_52 60 (ga_cmp (fun x y => decide (y ≤ x)) 82 63) := gs_cmp_ge (by decide +kernel : decode mi_52.2.1 60 = .ok (.if_icmp .ge 22, 3)) (by decide) rfl
theorem s_52_63 {K : gC} : gOk K g_Ms mi_52 63 (ga_aload 0 64) := gs_aload_n (by decide +kernel : decode mi_52.2.1 63 = .ok (.aload_n 0, 1)) rfl rfl
theorem s_52_64 {K : gC} : gOk K g_Ms mi_52 64 (ga_getR 6 4 67) := gs_getR gcls_6 (by decide) (by decide) gw_246 (by decide +kernel : decode mi_52.2.1 64 = .ok (.getfield 33, 3)) rfl
theorem s_52_67 {K : gC} : gOk K g_Ms mi_52 67 (ga_iload 1 68) := gs_iload_n (by decide +kernel : decode mi_52.2.1 67 = .ok (.iload_n 1, 1)) rfl rfl
theorem s_52_68 {K : gC} : gOk K g_Ms mi_52 68 (ga_new 2 5 71) := gs_new gcls_2 gw_140 (by decide +kernel : decode mi_52.2.1 68 = .ok (.new 26, 3)) rfl
theorem s_52_71 {K : gC} : gOk K g_Ms mi_52 71 (ga_dup 72) := gs_dup (by decide +kernel : decode mi_52.2.1 71 = .ok (.dup, 1)) rfl
theorem s_52_72 {K : gC} : gOk K g_Ms mi_52 72 (ga_callI 22 0 75) := gs_callI (gce_X2_init (by decide) (by decide)) gw_142 gw_143 rfl rfl (by decide +kernel : decode mi_52.2.1 72 = .ok (.invokespecial 28, 3)) rfl
theorem s_52_75 {K : gC} : gOk K g_Ms mi_52 75 (ga_aast 76) := gs_aast gcls_2 (by decide +kernel : decode mi_52.2.1 75 = .ok (.aastore, 1)) rfl
theorem s_52_76 {K : gC} : gOk K g_Ms mi_52 76 (ga_iinc 1 1 79) := gs_iinc (by decide +kernel : decode mi_52.2.1 76 = .ok (.iinc 1 1, 3)) (by decide) rfl
theorem s_52_79 {K : gC} : gOk K g_Ms mi_52 79 (ga_goto 58) := gs_goto (by decide +kernel : decode mi_52.2.1 79 = .ok (.goto (-21), 3)) (by decide)
theorem s_52_82 {K : gC} : gOk K g_Ms mi_52 82 (ga_aload 0 83) := gs_aload_n (by decide +kernel : decode mi_52.2.1 82 = .ok (.aload_n 0, 1)) rfl rfl
theorem s_52_83 {K : gC} : gOk K g_Ms mi_52 83 (ga_push (.int 2) 84) := gs_iconst (by decide +kernel : decode mi_52.2.1 83 = .ok (.iconst 2, 1)) (by decide) rfl
theorem s_52_84 {K : gC} : gOk K g_Ms mi_52 84 (ga_newa 9 86) := gs_newaZ gw_167 (by decide +kernel : decode mi_52.2.1 84 = .ok (.newarray .boolean, 2)) rfl
theorem s_52_86 {K : gC} : gOk K g_Ms mi_52 86 (ga_putR 6 5 89) := gs_putR gcls_6 (by decide) (by decide) (fun _ => ⟨rfl, rfl⟩) rfl rfl rfl gw_247 (by decide +kernel : decode mi_52.2.1 86 = .ok (.putfield 37, 3)) rfl
theorem s_52_89 {K : gC} : gOk K g_Ms mi_52 89 (ga_aload 0 90) := gs_aload_n (by decide +kernel : decode mi_52.2.1 89 = .ok (.aload_n 0, 1)) rfl rfl
theorem s_52_90 {K : gC} : gOk K g_Ms mi_52 90 (ga_new 3 3 93) := gs_new gcls_3 gw_169 (by decide +kernel : decode mi_52.2.1 90 = .ok (.new 41, 3)) rfl
theorem s_52_93 {K : gC} : gOk K g_Ms mi_52 93 (ga_dup 94) := gs_dup (by decide +kernel : decode mi_52.2.1 93 = .ok (.dup, 1)) rfl
theorem s_52_94 {K : gC} : gOk K g_Ms mi_52 94 (ga_callI 31 0 97) := gs_callI (gce_X3_init (by decide) (by decide)) gw_171 gw_172 rfl rfl (by decide +kernel : decode mi_52.2.1 94 = .ok (.invokespecial 43, 3)) rfl
theorem s_52_97 {K : gC} : gOk K g_Ms mi_52 97 (ga_putR 6 6 100) := gs_putR gcls_6 (by decide) (by decide) (fun _ => ⟨rfl, rfl⟩) rfl rfl rfl gw_248 (by decide +kernel : decode mi_52.2.1 97 = .ok (.putfield 44, 3)) rfl
theorem s_52_100 {K : gC} : gOk K g_Ms mi_52 100 (ga_aload 0 101) := gs_aload_n (by decide +kernel : decode mi_52.2.1 100 = .ok (.aload_n 0, 1)) rfl rfl
theorem s_52_101 {K : gC} : gOk K g_Ms mi_52 101 (ga_new 1 8 104) := gs_new gcls_1 gw_186 (by decide +kernel : decode mi_52.2.1 101 = .ok (.new 48, 3)) rfl
theorem s_52_104 {K : gC} : gOk K g_Ms mi_52 104 (ga_dup 105) := gs_dup (by decide +kernel : decode mi_52.2.1 104 = .ok (.dup, 1)) rfl
theorem s_52_105 {K : gC} : gOk K g_Ms mi_52 105 (ga_callI 8 0 108) := gs_callI (gce_X1_init (by decide) (by decide)) gw_188 gw_189 rfl rfl (by decide +kernel : decode mi_52.2.1 105 = .ok (.invokespecial 50, 3)) rfl
theorem s_52_108 {K : gC} : gOk K g_Ms mi_52 108 (ga_putR 6 7 111) := gs_putR gcls_6 (by decide) (by decide) (fun _ => ⟨rfl, rfl⟩) rfl rfl rfl gw_249 (by decide +kernel : decode mi_52.2.1 108 = .ok (.putfield 51, 3)) rfl
theorem s_52_111 {K : gC} : gOk K g_Ms mi_52 111 (ga_vret) := gs_vret (by decide +kernel : decode mi_52.2.1 111 = .ok (.return_, 1)) rfl
theorem ok_52 {K : gC} : ∀ e ∈ t_52, gOk K g_Ms mi_52 e.1 e.2 := by
  unfold t_52
  simp only [List.forall_mem_cons, List.not_mem_nil, false_implies, implies_true, and_true]
  exact ⟨s_52_0, s_52_1, s_52_4, s_52_5, s_52_8, s_52_9, s_52_12, s_52_15, s_52_16, s_52_19, s_52_20, s_52_23, s_52_26, s_52_27, s_52_30, s_52_31, s_52_34, s_52_37, s_52_38, s_52_41, s_52_42, s_52_45, s_52_48, s_52_49, s_52_50, s_52_53, s_52_56, s_52_57, s_52_58, s_52_59, s_52_60, s_52_63, s_52_64, s_52_67, s_52_68, s_52_71, s_52_72, s_52_75, s_52_76, s_52_79, s_52_82, s_52_83, s_52_84, s_52_86, s_52_89, s_52_90, s_52_93, s_52_94, s_52_97, s_52_100, s_52_101, s_52_104, s_52_105, s_52_108, s_52_111⟩
theorem s_53_0 {K : gC} : gOk K g_Ms mi_53 0 (ga_iload 3 1) := gs_iload_n (by decide +kernel : decode mi_53.2.1 0 = .ok (.iload_n 3, 1)) rfl rfl
theorem s_53_1 {K : gC} : gOk K g_Ms mi_53 1 (ga_push (.int 1) 2) := gs_iconst (by decide +kernel : decode mi_53.2.1 1 = .ok (.iconst 1, 1)) (by decide) rfl
theorem s_53_2 {K : gC} : gOk K g_Ms mi_53 2 (ga_cmp (fun x y => decide (x < y)) 11 5) := gs_cmp_lt (by decide +kernel : decode mi_53.2.1 2 = .ok (.if_icmp .lt 9, 3)) (by decide) rfl
theorem s_53_5 {K : gC} : gOk K g_Ms mi_53 5 (ga_iload 3 6) := gs_iload_n (by decide +kernel : decode mi_53.2.1 5 = .ok (.iload_n 3, 1)) rfl rfl
theorem s_53_6 {K : gC} : gOk K g_Ms mi_53 6 (ga_push (.int 8) 8) := gs_bipush (by decide +kernel : decode mi_53.2.1 6 = .ok (.bipush 8, 2)) (by decide) rfl
theorem s_53_8 {K : gC} : gOk K g_Ms mi_53 8 (ga_cmp (fun x y => decide (x ≤ y)) 14 11) := gs_cmp_le (by decide +kernel : decode mi_53.2.1 8 = .ok (.if_icmp .le 6, 3)) (by decide) rfl
theorem s_53_11 {K : gC} : gOk K g_Ms mi_53 11 (ga_push (.int (-3)) 13) := gs_bipush (by decide +kernel : decode mi_53.2.1 11 = .ok (.bipush (-3), 2)) (by decide) rfl
theorem s_53_13 {K : gC} : gOk K g_Ms mi_53 13 (ga_iret) := gs_iret (by decide +kernel : decode mi_53.2.1 13 = .ok (.ireturn, 1)) rfl
theorem s_53_14 {K : gC} : gOk K g_Ms mi_53 14 (ga_aload 0 15) := gs_aload_n (by decide +kernel : decode mi_53.2.1 14 = .ok (.aload_n 0, 1)) rfl rfl
theorem s_53_15 {K : gC} : gOk K g_Ms mi_53 15 (ga_getR 6 0 18) := gs_getR gcls_6 (by decide) (by decide) gw_242 (by decide +kernel : decode mi_53.2.1 15 = .ok (.getfield 12, 3)) rfl
theorem s_53_18 {K : gC} : gOk K g_Ms mi_53 18 (ga_getI 4 1 21) := gs_getI gcls_4 (by decide) (by decide) gw_69 (by decide +kernel : decode mi_53.2.1 18 = .ok (.getfield 55, 3)) rfl
theorem s_53_21 {K : gC} : gOk K g_Ms mi_53 21 (ga_iload 3 22) := gs_iload_n (by decide +kernel : decode mi_53.2.1 21 = .ok (.iload_n 3, 1)) rfl rfl
theorem s_53_22 {K : gC} : gOk K g_Ms mi_53 22 (ga_bin (fun x y => x + y) 23) := gs_iadd (by decide +kernel : decode mi_53.2.1 22 = .ok (.iadd, 1)) rfl
theorem s_53_23 {K : gC} : gOk K g_Ms mi_53 23 (ga_push (.int 200) 26) := gs_sipush (by decide +kernel : decode mi_53.2.1 23 = .ok (.sipush 200, 3)) (by decide) rfl
theorem s_53_26 {K : gC} : gOk K g_Ms mi_53 26 (ga_cmp (fun x y => decide (x ≤ y)) 32 29) := gs_cmp_le (by decide +kernel : decode mi_53.2.1 26 = .ok (.if_icmp .le 6, 3)) (by decide) rfl
theorem s_53_29 {K : gC} : gOk K g_Ms mi_53 29 (ga_push (.int (-5)) 31) := gs_bipush (by decide +kernel : decode mi_53.2.1 29 = .ok (.bipush (-5), 2)) (by decide) rfl
theorem s_53_31 {K : gC} : gOk K g_Ms mi_53 31 (ga_iret) := gs_iret (by decide +kernel : decode mi_53.2.1 31 = .ok (.ireturn, 1)) rfl
theorem s_53_32 {K : gC} : gOk K g_Ms mi_53 32 (ga_push (.int 0) 33) := gs_iconst (by decide +kernel : decode mi_53.2.1 32 = .ok (.iconst 0, 1)) (by decide) rfl
theorem s_53_33 {K : gC} : gOk K g_Ms mi_53 33 (ga_istore 4 35) := gs_istore (by decide +kernel : decode mi_53.2.1 33 = .ok (.istore 4, 2)) rfl
theorem s_53_35 {K : gC} : gOk K g_Ms mi_53 35 (ga_iload 4 37) := gs_iload (by decide +kernel : decode mi_53.2.1 35 = .ok (.iload 4, 2)) rfl
theorem s_53_37 {K : gC} : gOk K g_Ms mi_53 37 (ga_iload 3 38) := gs_iload_n (by decide +kernel : decode mi_53.2.1 37 = .ok (.iload_n 3, 1)) rfl rfl
theorem s_53_38 {K : gC} : gOk K g_Ms mi_53 38 (ga_cmp (fun x y => decide (y ≤ x)) 66 41) := gs_cmp_ge (by decide +kernel : decode mi_53.2.1 38 = .ok (.if_icmp .ge 28, 3)) (by decide) rfl
theorem s_53_41 {K : gC} : gOk K g_Ms mi_53 41 (ga_aload 0 42) := gs_aload_n (by decide +kernel : decode mi_53.2.1 41 = .ok (.aload_n 0, 1)) rfl rfl
theorem s_53_42 {K : gC} : gOk K g_Ms mi_53 42 (ga_getR 6 0 45) := gs_getR gcls_6 (by decide) (by decide) gw_242 (by decide +kernel : decode mi_53.2.1 42 = .ok (.getfield 12, 3)) rfl
theorem s_53_45 {K : gC} : gOk K g_Ms mi_53 45 (ga_lload 1 46) := gs_lload_n (by decide +kernel : decode mi_53.2.1 45 = .ok (.lload_n 1, 1)) rfl rfl
theorem s_53_46 {K : gC} : gOk K g_Ms mi_53 46 (ga_push (.int 8) 48) := gs_bipush (by decide +kernel : decode mi_53.2.1 46 = .ok (.bipush 8, 2)) (by decide) rfl
theorem s_53_48 {K : gC} : gOk K g_Ms mi_53 48 (ga_iload 4 50) := gs_iload (by decide +kernel : decode mi_53.2.1 48 = .ok (.iload 4, 2)) rfl
theorem s_53_50 {K : gC} : gOk K g_Ms mi_53 50 (ga_bin (fun x y => x * y) 51) := gs_imul (by decide +kernel : decode mi_53.2.1 50 = .ok (.imul, 1)) rfl
theorem s_53_51 {K : gC} : gOk K g_Ms mi_53 51 (ga_lsh (fun x y => x >>> (y.toInt64 &&& 63)) 52) := gs_lshr (by decide +kernel : decode mi_53.2.1 51 = .ok (.lshr, 1)) rfl
theorem s_53_52 {K : gC} : gOk K g_Ms mi_53 52 (ga_push (.long 255) 55) := gs_ldc2 (by decide +kernel : decode mi_53.2.1 52 = .ok (.ldc2_w 59, 3)) gw_271 rfl
theorem s_53_55 {K : gC} : gOk K g_Ms mi_53 55 (ga_lbin (fun x y => x &&& y) 56) := gs_land (by decide +kernel : decode mi_53.2.1 55 = .ok (.land, 1)) rfl
theorem s_53_56 {K : gC} : gOk K g_Ms mi_53 56 (ga_l2i 57) := gs_l2i (by decide +kernel : decode mi_53.2.1 56 = .ok (.l2i, 1)) rfl
theorem s_53_57 {K : gC} : gOk K g_Ms mi_53 57 (ga_callV 4 35 1 60) := gs_callV gcls_4 (gce_X4_append (by decide) (by decide)) gw_272 gw_273 gw_274 (by decide +kernel : decode mi_53.2.1 57 = .ok (.invokevirtual 61, 3)) rfl
theorem s_53_60 {K : gC} : gOk K g_Ms mi_53 60 (ga_iinc 4 1 63) := gs_iinc (by decide +kernel : decode mi_53.2.1 60 = .ok (.iinc 4 1, 3)) (by decide) rfl
theorem s_53_63 {K : gC} : gOk K g_Ms mi_53 63 (ga_goto 35) := gs_goto (by decide +kernel : decode mi_53.2.1 63 = .ok (.goto (-28), 3)) (by decide)
theorem s_53_66 {K : gC} : gOk K g_Ms mi_53 66 (ga_aload 0 67) := gs_aload_n (by decide +kernel : decode mi_53.2.1 66 = .ok (.aload_n 0, 1)) rfl rfl
theorem s_53_67 {K : gC} : gOk K g_Ms mi_53 67 (ga_getR 6 0 70) := gs_getR gcls_6 (by decide) (by decide) gw_242 (by decide +kernel : decode mi_53.2.1 67 = .ok (.getfield 12, 3)) rfl
theorem s_53_70 {K : gC} : gOk K g_Ms mi_53 70 (ga_getI 4 1 73) := gs_getI gcls_4 (by decide) (by decide) gw_69 (by decide +kernel : decode mi_53.2.1 70 = .ok (.getfield 55, 3)) rfl
theorem s_53_73 {K : gC} : gOk K g_Ms mi_53 73 (ga_iret) := gs_iret (by decide +kernel : decode mi_53.2.1 73 = .ok (.ireturn, 1)) rfl
theorem ok_53 {K : gC} : ∀ e ∈ t_53, gOk K g_Ms mi_53 e.1 e.2 := by
  unfold t_53
  simp only [List.forall_mem_cons, List.not_mem_nil, false_implies, implies_true, and_true]
  exact ⟨s_53_0, s_53_1, s_53_2, s_53_5, s_53_6, s_53_8, s_53_11, s_53_13, s_53_14, s_53_15, s_53_18, s_53_21, s_53_22, s_53_23, s_53_26, s_53_29, s_53_31, s_53_32, s_53_33, s_53_35, s_53_37, s_53_38, s_53_41, s_53_42, s_53_45, s_53_46, s_53_48, s_53_50, s_53_51, s_53_52, s_53_55, s_53_56, s_53_57, s_53_60, s_53_63, s_53_66, s_53_67, s_53_70, s_53_73⟩
theorem s_54_0 {K : gC} : gOk K g_Ms mi_54 0 (ga_aload 0 1) := gs_aload_n (by decide +kernel : decode mi_54.2.1 0 = .ok (.aload_n 0, 1)) rfl rfl
theorem s_54_1 {K : gC} : gOk K g_Ms mi_54 1 (ga_getR 6 0 4) := gs_getR gcls_6 (by decide) (by decide) gw_242 (by decide +kernel : decode mi_54.2.1 1 = .ok (.getfield 12, 3)) rfl
theorem s_54_4 {K : gC} : gOk K g_Ms mi_54 4 (ga_getI 4 1 7) := gs_getI gcls_4 (by decide) (by decide) gw_69 (by decide +kernel : decode mi_54.2.1 4 = .ok (.getfield 55, 3)) rfl
theorem s_54_7 {K : gC} : gOk K g_Ms mi_54 7 (ga_istore 1 8) := gs_istore_n (by decide +kernel : decode mi_54.2.1 7 = .ok (.istore_n 1, 1)) rfl rfl
theorem s_54_8 {K : gC} : gOk K g_Ms mi_54 8 (ga_aload 0 9) := gs_aload_n (by decide +kernel : decode mi_54.2.1 8 = .ok (.aload_n 0, 1)) rfl rfl
theorem s_54_9 {K : gC} : gOk K g_Ms mi_54 9 (ga_getR 6 0 12) := gs_getR gcls_6 (by decide) (by decide) gw_242 (by decide +kernel : decode mi_54.2.1 9 = .ok (.getfield 12, 3)) rfl
theorem s_54_12 {K : gC} : gOk K g_Ms mi_54 12 (ga_push (.int 0) 13) := gs_iconst (by decide +kernel : decode mi_54.2.1 12 = .ok (.iconst 0, 1)) (by decide) rfl
theorem s_54_13 {K : gC} : gOk K g_Ms mi_54 13 (ga_putI 4 1 16) := gs_putI gcls_4 (by decide) (by decide) rfl rfl gw_69 (by decide +kernel : decode mi_54.2.1 13 = .ok (.putfield 55, 3)) rfl
theorem s_54_16 {K : gC} : gOk K g_Ms mi_54 16 (ga_iload 1 17) := gs_iload_n (by decide +kernel : decode mi_54.2.1 16 = .ok (.iload_n 1, 1)) rfl rfl
theorem s_54_17 {K : gC} : gOk K g_Ms mi_54 17 (ga_iret) := gs_iret (by decide +kernel : decode mi_54.2.1 17 = .ok (.ireturn, 1)) rfl
theorem ok_54 {K : gC} : ∀ e ∈ t_54, gOk K g_Ms mi_54 e.1 e.2 := by
  unfold t_54
  simp only [List.forall_mem_cons, List.not_mem_nil, false_implies, implies_true, and_true]
  exact ⟨s_54_0, s_54_1, s_54_4, s_54_7, s_54_8, s_54_9, s_54_12, s_54_13, s_54_16, s_54_17⟩
theorem s_55_0 {K : gC} : gOk K g_Ms mi_55 0 (ga_aload 0 1) := gs_aload_n (by decide +kernel : decode mi_55.2.1 0 = .ok (.aload_n 0, 1)) rfl rfl
theorem s_55_1 {K : gC} : gOk K g_Ms mi_55 1 (ga_getR 6 2 4) := gs_getR gcls_6 (by decide) (by decide) gw_244 (by decide +kernel : decode mi_55.2.1 1 = .ok (.getfield 23, 3)) rfl
theorem s_55_4 {K : gC} : gOk K g_Ms mi_55 4 (ga_aload 0 5) := gs_aload_n (by decide +kernel : decode mi_55.2.1 4 = .ok (.aload_n 0, 1)) rfl rfl
theorem s_55_5 {K : gC} : gOk K g_Ms mi_55 5 (ga_getR 6 1 8) := gs_getR gcls_6 (by decide) (by decide) gw_243 (by decide +kernel : decode mi_55.2.1 5 = .ok (.getfield 19, 3)) rfl
theorem s_55_8 {K : gC} : gOk K g_Ms mi_55 8 (ga_callV 0 2 1 11) := gs_callV gcls_0 (gce_X0_copyFrom (by decide) (by decide)) gw_284 gw_285 gw_286 (by decide +kernel : decode mi_55.2.1 8 = .ok (.invokevirtual 65, 3)) rfl
theorem s_55_11 {K : gC} : gOk K g_Ms mi_55 11 (ga_aload 0 12) := gs_aload_n (by decide +kernel : decode mi_55.2.1 11 = .ok (.aload_n 0, 1)) rfl rfl
theorem s_55_12 {K : gC} : gOk K g_Ms mi_55 12 (ga_getR 6 0 15) := gs_getR gcls_6 (by decide) (by decide) gw_242 (by decide +kernel : decode mi_55.2.1 12 = .ok (.getfield 12, 3)) rfl
theorem s_55_15 {K : gC} : gOk K g_Ms mi_55 15 (ga_aload 0 16) := gs_aload_n (by decide +kernel : decode mi_55.2.1 15 = .ok (.aload_n 0, 1)) rfl rfl
theorem s_55_16 {K : gC} : gOk K g_Ms mi_55 16 (ga_getR 6 2 19) := gs_getR gcls_6 (by decide) (by decide) gw_244 (by decide +kernel : decode mi_55.2.1 16 = .ok (.getfield 23, 3)) rfl
theorem s_55_19 {K : gC} : gOk K g_Ms mi_55 19 (ga_callV 4 36 1 22) := gs_callV gcls_4 (gce_X4_readOnto (by decide) (by decide)) gw_291 gw_292 gw_293 (by decide +kernel : decode mi_55.2.1 19 = .ok (.invokevirtual 69, 3)) rfl
theorem s_55_22 {K : gC} : gOk K g_Ms mi_55 22 (ga_iret) := gs_iret (by decide +kernel : decode mi_55.2.1 22 = .ok (.ireturn, 1)) rfl
theorem ok_55 {K : gC} : ∀ e ∈ t_55, gOk K g_Ms mi_55 e.1 e.2 := by
  unfold t_55
  simp only [List.forall_mem_cons, List.not_mem_nil, false_implies, implies_true, and_true]
  exact ⟨s_55_0, s_55_1, s_55_4, s_55_5, s_55_8, s_55_11, s_55_12, s_55_15, s_55_16, s_55_19, s_55_22⟩
theorem s_56_0 {K : gC} : gOk K g_Ms mi_56 0 (ga_aload 0 1) := gs_aload_n (by decide +kernel : decode mi_56.2.1 0 = .ok (.aload_n 0, 1)) rfl rfl
theorem s_56_1 {K : gC} : gOk K g_Ms mi_56 1 (ga_getR 6 2 4) := gs_getR gcls_6 (by decide) (by decide) gw_244 (by decide +kernel : decode mi_56.2.1 1 = .ok (.getfield 23, 3)) rfl
theorem s_56_4 {K : gC} : gOk K g_Ms mi_56 4 (ga_aload 0 5) := gs_aload_n (by decide +kernel : decode mi_56.2.1 4 = .ok (.aload_n 0, 1)) rfl rfl
theorem s_56_5 {K : gC} : gOk K g_Ms mi_56 5 (ga_getR 6 1 8) := gs_getR gcls_6 (by decide) (by decide) gw_243 (by decide +kernel : decode mi_56.2.1 5 = .ok (.getfield 19, 3)) rfl
theorem s_56_8 {K : gC} : gOk K g_Ms mi_56 8 (ga_callV 0 2 1 11) := gs_callV gcls_0 (gce_X0_copyFrom (by decide) (by decide)) gw_284 gw_285 gw_286 (by decide +kernel : decode mi_56.2.1 8 = .ok (.invokevirtual 65, 3)) rfl
theorem s_56_11 {K : gC} : gOk K g_Ms mi_56 11 (ga_aload 0 12) := gs_aload_n (by decide +kernel : decode mi_56.2.1 11 = .ok (.aload_n 0, 1)) rfl rfl
theorem s_56_12 {K : gC} : gOk K g_Ms mi_56 12 (ga_getR 6 0 15) := gs_getR gcls_6 (by decide) (by decide) gw_242 (by decide +kernel : decode mi_56.2.1 12 = .ok (.getfield 12, 3)) rfl
theorem s_56_15 {K : gC} : gOk K g_Ms mi_56 15 (ga_aload 0 16) := gs_aload_n (by decide +kernel : decode mi_56.2.1 15 = .ok (.aload_n 0, 1)) rfl rfl
theorem s_56_16 {K : gC} : gOk K g_Ms mi_56 16 (ga_getR 6 2 19) := gs_getR gcls_6 (by decide) (by decide) gw_244 (by decide +kernel : decode mi_56.2.1 16 = .ok (.getfield 23, 3)) rfl
theorem s_56_19 {K : gC} : gOk K g_Ms mi_56 19 (ga_callV 4 36 1 22) := gs_callV gcls_4 (gce_X4_readOnto (by decide) (by decide)) gw_291 gw_292 gw_293 (by decide +kernel : decode mi_56.2.1 19 = .ok (.invokevirtual 69, 3)) rfl
theorem s_56_22 {K : gC} : gOk K g_Ms mi_56 22 (ga_push (.int (-1)) 23) := gs_iconst (by decide +kernel : decode mi_56.2.1 22 = .ok (.iconst (-1), 1)) (by decide) rfl
theorem s_56_23 {K : gC} : gOk K g_Ms mi_56 23 (ga_cmp (fun x y => decide (x = y)) 29 26) := gs_cmp_eq (by decide +kernel : decode mi_56.2.1 23 = .ok (.if_icmp .eq 6, 3)) (by decide) rfl
theorem s_56_26 {K : gC} : gOk K g_Ms mi_56 26 (ga_push (.int (-4)) 28) := gs_bipush (by decide +kernel : decode mi_56.2.1 26 = .ok (.bipush (-4), 2)) (by decide) rfl
theorem s_56_28 {K : gC} : gOk K g_Ms mi_56 28 (ga_iret) := gs_iret (by decide +kernel : decode mi_56.2.1 28 = .ok (.ireturn, 1)) rfl
theorem s_56_29 {K : gC} : gOk K g_Ms mi_56 29 (ga_aload 0 30) := gs_aload_n (by decide +kernel : decode mi_56.2.1 29 = .ok (.aload_n 0, 1)) rfl rfl
theorem s_56_30 {K : gC} : gOk K g_Ms mi_56 30 (ga_getR 6 1 33) := gs_getR gcls_6 (by decide) (by decide) gw_243 (by decide +kernel : decode mi_56.2.1 30 = .ok (.getfield 19, 3)) rfl
theorem s_56_33 {K : gC} : gOk K g_Ms mi_56 33 (ga_aload 0 34) := gs_aload_n (by decide +kernel : decode mi_56.2.1 33 = .ok (.aload_n 0, 1)) rfl rfl
theorem s_56_34 {K : gC} : gOk K g_Ms mi_56 34 (ga_getR 6 2 37) := gs_getR gcls_6 (by decide) (by decide) gw_244 (by decide +kernel : decode mi_56.2.1 34 = .ok (.getfield 23, 3)) rfl
theorem s_56_37 {K : gC} : gOk K g_Ms mi_56 37 (ga_callV 0 2 1 40) := gs_callV gcls_0 (gce_X0_copyFrom (by decide) (by decide)) gw_284 gw_285 gw_286 (by decide +kernel : decode mi_56.2.1 37 = .ok (.invokevirtual 65, 3)) rfl
theorem s_56_40 {K : gC} : gOk K g_Ms mi_56 40 (ga_aload 0 41) := gs_aload_n (by decide +kernel : decode mi_56.2.1 40 = .ok (.aload_n 0, 1)) rfl rfl
theorem s_56_41 {K : gC} : gOk K g_Ms mi_56 41 (ga_getR 6 0 44) := gs_getR gcls_6 (by decide) (by decide) gw_242 (by decide +kernel : decode mi_56.2.1 41 = .ok (.getfield 12, 3)) rfl
theorem s_56_44 {K : gC} : gOk K g_Ms mi_56 44 (ga_push (.int 0) 45) := gs_iconst (by decide +kernel : decode mi_56.2.1 44 = .ok (.iconst 0, 1)) (by decide) rfl
theorem s_56_45 {K : gC} : gOk K g_Ms mi_56 45 (ga_putI 4 1 48) := gs_putI gcls_4 (by decide) (by decide) rfl rfl gw_69 (by decide +kernel : decode mi_56.2.1 45 = .ok (.putfield 55, 3)) rfl
theorem s_56_48 {K : gC} : gOk K g_Ms mi_56 48 (ga_aload 0 49) := gs_aload_n (by decide +kernel : decode mi_56.2.1 48 = .ok (.aload_n 0, 1)) rfl rfl
theorem s_56_49 {K : gC} : gOk K g_Ms mi_56 49 (ga_getR 6 3 52) := gs_getR gcls_6 (by decide) (by decide) gw_245 (by decide +kernel : decode mi_56.2.1 49 = .ok (.getfield 29, 3)) rfl
theorem s_56_52 {K : gC} : gOk K g_Ms mi_56 52 (ga_aload 0 53) := gs_aload_n (by decide +kernel : decode mi_56.2.1 52 = .ok (.aload_n 0, 1)) rfl rfl
theorem s_56_53 {K : gC} : gOk K g_Ms mi_56 53 (ga_getR 6 1 56) := gs_getR gcls_6 (by decide) (by decide) gw_243 (by decide +kernel : decode mi_56.2.1 53 = .ok (.getfield 19, 3)) rfl
theorem s_56_56 {K : gC} : gOk K g_Ms mi_56 56 (ga_getI 0 5 59) := gs_getI gcls_0 (by decide) (by decide) gw_126 (by decide +kernel : decode mi_56.2.1 56 = .ok (.getfield 73, 3)) rfl
theorem s_56_59 {K : gC} : gOk K g_Ms mi_56 59 (ga_callV 2 23 1 62) := gs_callV gcls_2 (gce_X2_begin (by decide) (by decide)) gw_408 gw_409 gw_410 (by decide +kernel : decode mi_56.2.1 59 = .ok (.invokevirtual 76, 3)) rfl
theorem s_56_62 {K : gC} : gOk K g_Ms mi_56 62 (ga_aload 0 63) := gs_aload_n (by decide +kernel : decode mi_56.2.1 62 = .ok (.aload_n 0, 1)) rfl rfl
theorem s_56_63 {K : gC} : gOk K g_Ms mi_56 63 (ga_getR 6 6 66) := gs_getR gcls_6 (by decide) (by decide) gw_248 (by decide +kernel : decode mi_56.2.1 63 = .ok (.getfield 44, 3)) rfl
theorem s_56_66 {K : gC} : gOk K g_Ms mi_56 66 (ga_push (.int 0) 67) := gs_iconst (by decide +kernel : decode mi_56.2.1 66 = .ok (.iconst 0, 1)) (by decide) rfl
theorem s_56_67 {K : gC} : gOk K g_Ms mi_56 67 (ga_putI 3 2 70) := gs_putI gcls_3 (by decide) (by decide) rfl rfl gw_178 (by decide +kernel : decode mi_56.2.1 67 = .ok (.putfield 79, 3)) rfl
theorem s_56_70 {K : gC} : gOk K g_Ms mi_56 70 (ga_push (.int 0) 71) := gs_iconst (by decide +kernel : decode mi_56.2.1 70 = .ok (.iconst 0, 1)) (by decide) rfl
theorem s_56_71 {K : gC} : gOk K g_Ms mi_56 71 (ga_istore 1 72) := gs_istore_n (by decide +kernel : decode mi_56.2.1 71 = .ok (.istore_n 1, 1)) rfl rfl
theorem s_56_72 {K : gC} : gOk K g_Ms mi_56 72 (ga_iload 1 73) := gs_iload_n (by decide +kernel : decode mi_56.2.1 72 = .ok (.iload_n 1, 1)) rfl rfl
theorem s_56_73 {K : gC} : gOk K g_Ms mi_56 73 (ga_push (.int 2) 74) := gs_iconst (by decide +kernel : decode mi_56.2.1 73 = .ok (.iconst 2, 1)) (by decide) rfl
theorem s_56_74 {K : gC} : gOk K g_Ms mi_56 74 (ga_cmp (fun x y => decide (y ≤ x)) 90 77) := gs_cmp_ge (by decide +kernel : decode mi_56.2.1 74 = .ok (.if_icmp .ge 16, 3)) (by decide) rfl
theorem s_56_77 {K : gC} : gOk K g_Ms mi_56 77 (ga_aload 0 78) := gs_aload_n (by decide +kernel : decode mi_56.2.1 77 = .ok (.aload_n 0, 1)) rfl rfl
theorem s_56_78 {K : gC} : gOk K g_Ms mi_56 78 (ga_getR 6 5 81) := gs_getR gcls_6 (by decide) (by decide) gw_247 (by decide +kernel : decode mi_56.2.1 78 = .ok (.getfield 37, 3)) rfl
theorem s_56_81 {K : gC} : gOk K g_Ms mi_56 81 (ga_iload 1 82) := gs_iload_n (by decide +kernel : decode mi_56.2.1 81 = .ok (.iload_n 1, 1)) rfl rfl
theorem s_56_82 {K : gC} : gOk K g_Ms mi_56 82 (ga_push (.int 0) 83) := gs_iconst (by decide +kernel : decode mi_56.2.1 82 = .ok (.iconst 0, 1)) (by decide) rfl
theorem s_56_83 {K : gC} : gOk K g_Ms mi_56 83 (ga_bast 84) := gs_zast (by decide +kernel : decode mi_56.2.1 83 = .ok (.bastore, 1)) rfl
theorem s_56_84 {K : gC} : gOk K g_Ms mi_56 84 (ga_iinc 1 1 87) := gs_iinc (by decide +kernel : decode mi_56.2.1 84 = .ok (.iinc 1 1, 3)) (by decide) rfl
theorem s_56_87 {K : gC} : gOk K g_Ms mi_56 87 (ga_goto 72) := gs_goto (by decide +kernel : decode mi_56.2.1 87 = .ok (.goto (-15), 3)) (by decide)
theorem s_56_90 {K : gC} : gOk K g_Ms mi_56 90 (ga_aload 0 91) := gs_aload_n (by decide +kernel : decode mi_56.2.1 90 = .ok (.aload_n 0, 1)) rfl rfl
theorem s_56_91 {K : gC} : gOk K g_Ms mi_56 91 (ga_getR 6 0 94) := gs_getR gcls_6 (by decide) (by decide) gw_242 (by decide +kernel : decode mi_56.2.1 91 = .ok (.getfield 12, 3)) rfl
theorem s_56_94 {K : gC} : gOk K g_Ms mi_56 94 (ga_getI 4 2 97) := gs_getI gcls_4 (by decide) (by decide) gw_71 (by decide +kernel : decode mi_56.2.1 94 = .ok (.getfield 82, 3)) rfl
theorem s_56_97 {K : gC} : gOk K g_Ms mi_56 97 (ga_iret) := gs_iret (by decide +kernel : decode mi_56.2.1 97 = .ok (.ireturn, 1)) rfl
theorem ok_56 {K : gC} : ∀ e ∈ t_56, gOk K g_Ms mi_56 e.1 e.2 := by
  unfold t_56
  simp only [List.forall_mem_cons, List.not_mem_nil, false_implies, implies_true, and_true]
  exact ⟨s_56_0, s_56_1, s_56_4, s_56_5, s_56_8, s_56_11, s_56_12, s_56_15, s_56_16, s_56_19, s_56_22, s_56_23, s_56_26, s_56_28, s_56_29, s_56_30, s_56_33, s_56_34, s_56_37, s_56_40, s_56_41, s_56_44, s_56_45, s_56_48, s_56_49, s_56_52, s_56_53, s_56_56, s_56_59, s_56_62, s_56_63, s_56_66, s_56_67, s_56_70, s_56_71, s_56_72, s_56_73, s_56_74, s_56_77, s_56_78, s_56_81, s_56_82, s_56_83, s_56_84, s_56_87, s_56_90, s_56_91, s_56_94, s_56_97⟩
theorem s_57_0 {K : gC} : gOk K g_Ms mi_57 0 (ga_aload 0 1) := gs_aload_n (by decide +kernel : decode mi_57.2.1 0 = .ok (.aload_n 0, 1)) rfl rfl
theorem s_57_1 {K : gC} : gOk K g_Ms mi_57 1 (ga_getR 6 1 4) := gs_getR gcls_6 (by decide) (by decide) gw_243 (by decide +kernel : decode mi_57.2.1 1 = .ok (.getfield 19, 3)) rfl
theorem s_57_4 {K : gC} : gOk K g_Ms mi_57 4 (ga_iload 1 5) := gs_iload_n (by decide +kernel : decode mi_57.2.1 4 = .ok (.iload_n 1, 1)) rfl rfl
theorem s_57_5 {K : gC} : gOk K g_Ms mi_57 5 (ga_callV 0 3 1 8) := gs_callV gcls_0 (gce_X0_has (by decide) (by decide)) gw_416 gw_417 gw_418 (by decide +kernel : decode mi_57.2.1 5 = .ok (.invokevirtual 85, 3)) rfl
theorem s_57_8 {K : gC} : gOk K g_Ms mi_57 8 (ga_if (fun x => decide (¬ x = 0)) 14 11) := gs_if_ne (by decide +kernel : decode mi_57.2.1 8 = .ok (.ifCond .ne 6, 3)) (by decide) rfl
theorem s_57_11 {K : gC} : gOk K g_Ms mi_57 11 (ga_push (.int (-2)) 13) := gs_bipush (by decide +kernel : decode mi_57.2.1 11 = .ok (.bipush (-2), 2)) (by decide) rfl
theorem s_57_13 {K : gC} : gOk K g_Ms mi_57 13 (ga_iret) := gs_iret (by decide +kernel : decode mi_57.2.1 13 = .ok (.ireturn, 1)) rfl
theorem s_57_14 {K : gC} : gOk K g_Ms mi_57 14 (ga_iload 2 15) := gs_iload_n (by decide +kernel : decode mi_57.2.1 14 = .ok (.iload_n 2, 1)) rfl rfl
theorem s_57_15 {K : gC} : gOk K g_Ms mi_57 15 (ga_switch 0 [48, 58, 68, 92, 102] 111) := gs_switch (by decide +kernel : decode mi_57.2.1 15 = .ok (.tableswitch 96 0 4 #[33, 43, 53, 77, 87], 33)) (by decide) (by decide) (by decide)
theorem s_57_48 {K : gC} : gOk K g_Ms mi_57 48 (ga_aload 0 49) := gs_aload_n (by decide +kernel : decode mi_57.2.1 48 = .ok (.aload_n 0, 1)) rfl rfl
theorem s_57_49 {K : gC} : gOk K g_Ms mi_57 49 (ga_getR 6 1 52) := gs_getR gcls_6 (by decide) (by decide) gw_243 (by decide +kernel : decode mi_57.2.1 49 = .ok (.getfield 19, 3)) rfl
theorem s_57_52 {K : gC} : gOk K g_Ms mi_57 52 (ga_getR 0 0 55) := gs_getR gcls_0 (by decide) (by decide) gw_105 (by decide +kernel : decode mi_57.2.1 52 = .ok (.getfield 89, 3)) rfl
theorem s_57_55 {K : gC} : gOk K g_Ms mi_57 55 (ga_iload 1 56) := gs_iload_n (by decide +kernel : decode mi_57.2.1 55 = .ok (.iload_n 1, 1)) rfl rfl
theorem s_57_56 {K : gC} : gOk K g_Ms mi_57 56 (ga_iald 57) := gs_iald (by decide +kernel : decode mi_57.2.1 56 = .ok (.iaload, 1)) rfl
theorem s_57_57 {K : gC} : gOk K g_Ms mi_57 57 (ga_iret) := gs_iret (by decide +kernel : decode mi_57.2.1 57 = .ok (.ireturn, 1)) rfl
theorem s_57_58 {K : gC} : gOk K g_Ms mi_57 58 (ga_aload 0 59) := gs_aload_n (by decide +kernel : decode mi_57.2.1 58 = .ok (.aload_n 0, 1)) rfl rfl
theorem s_57_59 {K : gC} : gOk K g_Ms mi_57 59 (ga_getR 6 1 62) := gs_getR gcls_6 (by decide) (by decide) gw_243 (by decide +kernel : decode mi_57.2.1 59 = .ok (.getfield 19, 3)) rfl
theorem s_57_62 {K : gC} : gOk K g_Ms mi_57 62 (ga_getR 0 1 65) := gs_getR gcls_0 (by decide) (by decide) gw_108 (by decide +kernel : decode mi_57.2.1 62 = .ok (.getfield 93, 3)) rfl
theorem s_57_65 {K : gC} : gOk K g_Ms mi_57 65 (ga_iload 1 66) := gs_iload_n (by decide +kernel : decode mi_57.2.1 65 = .ok (.iload_n 1, 1)) rfl rfl
theorem s_57_66 {K : gC} : gOk K g_Ms mi_57 66 (ga_iald 67) := gs_iald (by decide +kernel : decode mi_57.2.1 66 = .ok (.iaload, 1)) rfl
theorem s_57_67 {K : gC} : gOk K g_Ms mi_57 67 (ga_iret) := gs_iret (by decide +kernel : decode mi_57.2.1 67 = .ok (.ireturn, 1)) rfl
theorem s_57_68 {K : gC} : gOk K g_Ms mi_57 68 (ga_aload 0 69) := gs_aload_n (by decide +kernel : decode mi_57.2.1 68 = .ok (.aload_n 0, 1)) rfl rfl
theorem s_57_69 {K : gC} : gOk K g_Ms mi_57 69 (ga_getR 6 1 72) := gs_getR gcls_6 (by decide) (by decide) gw_243 (by decide +kernel : decode mi_57.2.1 69 = .ok (.getfield 19, 3)) rfl
theorem s_57_72 {K : gC} : gOk K g_Ms mi_57 72 (ga_iload 1 73) := gs_iload_n (by decide +kernel : decode mi_57.2.1 72 = .ok (.iload_n 1, 1)) rfl rfl
theorem s_57_73 {K : gC} : gOk K g_Ms mi_57 73 (ga_aload 0 74) := gs_aload_n (by decide +kernel : decode mi_57.2.1 73 = .ok (.aload_n 0, 1)) rfl rfl
theorem s_57_74 {K : gC} : gOk K g_Ms mi_57 74 (ga_getR 6 3 77) := gs_getR gcls_6 (by decide) (by decide) gw_245 (by decide +kernel : decode mi_57.2.1 74 = .ok (.getfield 29, 3)) rfl
theorem s_57_77 {K : gC} : gOk K g_Ms mi_57 77 (ga_getI 2 4 80) := gs_getI gcls_2 (by decide) (by decide) gw_154 (by decide +kernel : decode mi_57.2.1 77 = .ok (.getfield 96, 3)) rfl
theorem s_57_80 {K : gC} : gOk K g_Ms mi_57 80 (ga_callV 0 4 2 83) := gs_callV gcls_0 (gce_X0_canHear (by decide) (by decide)) gw_420 gw_421 gw_422 (by decide +kernel : decode mi_57.2.1 80 = .ok (.invokevirtual 99, 3)) rfl
theorem s_57_83 {K : gC} : gOk K g_Ms mi_57 83 (ga_if (fun x => decide (x = 0)) 90 86) := gs_if_eq (by decide +kernel : decode mi_57.2.1 83 = .ok (.ifCond .eq 7, 3)) (by decide) rfl
theorem s_57_86 {K : gC} : gOk K g_Ms mi_57 86 (ga_push (.int 1) 87) := gs_iconst (by decide +kernel : decode mi_57.2.1 86 = .ok (.iconst 1, 1)) (by decide) rfl
theorem s_57_87 {K : gC} : gOk K g_Ms mi_57 87 (ga_goto 91) := gs_goto (by decide +kernel : decode mi_57.2.1 87 = .ok (.goto 4, 3)) (by decide)
theorem s_57_90 {K : gC} : gOk K g_Ms mi_57 90 (ga_push (.int 0) 91) := gs_iconst (by decide +kernel : decode mi_57.2.1 90 = .ok (.iconst 0, 1)) (by decide) rfl
theorem s_57_91 {K : gC} : gOk K g_Ms mi_57 91 (ga_iret) := gs_iret (by decide +kernel : decode mi_57.2.1 91 = .ok (.ireturn, 1)) rfl
theorem s_57_92 {K : gC} : gOk K g_Ms mi_57 92 (ga_aload 0 93) := gs_aload_n (by decide +kernel : decode mi_57.2.1 92 = .ok (.aload_n 0, 1)) rfl rfl
theorem s_57_93 {K : gC} : gOk K g_Ms mi_57 93 (ga_getR 6 3 96) := gs_getR gcls_6 (by decide) (by decide) gw_245 (by decide +kernel : decode mi_57.2.1 93 = .ok (.getfield 29, 3)) rfl
theorem s_57_96 {K : gC} : gOk K g_Ms mi_57 96 (ga_getR 2 1 99) := gs_getR gcls_2 (by decide) (by decide) gw_148 (by decide +kernel : decode mi_57.2.1 96 = .ok (.getfield 103, 3)) rfl
theorem s_57_99 {K : gC} : gOk K g_Ms mi_57 99 (ga_iload 1 100) := gs_iload_n (by decide +kernel : decode mi_57.2.1 99 = .ok (.iload_n 1, 1)) rfl rfl
theorem s_57_100 {K : gC} : gOk K g_Ms mi_57 100 (ga_iald 101) := gs_iald (by decide +kernel : decode mi_57.2.1 100 = .ok (.iaload, 1)) rfl
theorem s_57_101 {K : gC} : gOk K g_Ms mi_57 101 (ga_iret) := gs_iret (by decide +kernel : decode mi_57.2.1 101 = .ok (.ireturn, 1)) rfl
theorem s_57_102 {K : gC} : gOk K g_Ms mi_57 102 (ga_aload 0 103) := gs_aload_n (by decide +kernel : decode mi_57.2.1 102 = .ok (.aload_n 0, 1)) rfl rfl
theorem s_57_103 {K : gC} : gOk K g_Ms mi_57 103 (ga_getR 6 3 106) := gs_getR gcls_6 (by decide) (by decide) gw_245 (by decide +kernel : decode mi_57.2.1 103 = .ok (.getfield 29, 3)) rfl
theorem s_57_106 {K : gC} : gOk K g_Ms mi_57 106 (ga_iload 1 107) := gs_iload_n (by decide +kernel : decode mi_57.2.1 106 = .ok (.iload_n 1, 1)) rfl rfl
theorem s_57_107 {K : gC} : gOk K g_Ms mi_57 107 (ga_callV 2 28 1 110) := gs_callV gcls_2 (gce_X2_minutesToNext (by decide) (by decide)) gw_424 gw_425 gw_426 (by decide +kernel : decode mi_57.2.1 107 = .ok (.invokevirtual 106, 3)) rfl
theorem s_57_110 {K : gC} : gOk K g_Ms mi_57 110 (ga_iret) := gs_iret (by decide +kernel : decode mi_57.2.1 110 = .ok (.ireturn, 1)) rfl
theorem s_57_111 {K : gC} : gOk K g_Ms mi_57 111 (ga_push (.int (-3)) 113) := gs_bipush (by decide +kernel : decode mi_57.2.1 111 = .ok (.bipush (-3), 2)) (by decide) rfl
theorem s_57_113 {K : gC} : gOk K g_Ms mi_57 113 (ga_iret) := gs_iret (by decide +kernel : decode mi_57.2.1 113 = .ok (.ireturn, 1)) rfl
theorem ok_57 {K : gC} : ∀ e ∈ t_57, gOk K g_Ms mi_57 e.1 e.2 := by
  unfold t_57
  simp only [List.forall_mem_cons, List.not_mem_nil, false_implies, implies_true, and_true]
  exact ⟨s_57_0, s_57_1, s_57_4, s_57_5, s_57_8, s_57_11, s_57_13, s_57_14, s_57_15, s_57_48, s_57_49, s_57_52, s_57_55, s_57_56, s_57_57, s_57_58, s_57_59, s_57_62, s_57_65, s_57_66, s_57_67, s_57_68, s_57_69, s_57_72, s_57_73, s_57_74, s_57_77, s_57_80, s_57_83, s_57_86, s_57_87, s_57_90, s_57_91, s_57_92, s_57_93, s_57_96, s_57_99, s_57_100, s_57_101, s_57_102, s_57_103, s_57_106, s_57_107, s_57_110, s_57_111, s_57_113⟩
theorem s_58_0 {K : gC} : gOk K g_Ms mi_58 0 (ga_aload 0 1) := gs_aload_n (by decide +kernel : decode mi_58.2.1 0 = .ok (.aload_n 0, 1)) rfl rfl
theorem s_58_1 {K : gC} : gOk K g_Ms mi_58 1 (ga_getR 6 1 4) := gs_getR gcls_6 (by decide) (by decide) gw_243 (by decide +kernel : decode mi_58.2.1 1 = .ok (.getfield 19, 3)) rfl
theorem s_58_4 {K : gC} : gOk K g_Ms mi_58 4 (ga_iload 1 5) := gs_iload_n (by decide +kernel : decode mi_58.2.1 4 = .ok (.iload_n 1, 1)) rfl rfl
theorem s_58_5 {K : gC} : gOk K g_Ms mi_58 5 (ga_callV 0 3 1 8) := gs_callV gcls_0 (gce_X0_has (by decide) (by decide)) gw_416 gw_417 gw_418 (by decide +kernel : decode mi_58.2.1 5 = .ok (.invokevirtual 85, 3)) rfl
theorem s_58_8 {K : gC} : gOk K g_Ms mi_58 8 (ga_if (fun x => decide (¬ x = 0)) 14 11) := gs_if_ne (by decide +kernel : decode mi_58.2.1 8 = .ok (.ifCond .ne 6, 3)) (by decide) rfl
theorem s_58_11 {K : gC} : gOk K g_Ms mi_58 11 (ga_push (.int (-2)) 13) := gs_bipush (by decide +kernel : decode mi_58.2.1 11 = .ok (.bipush (-2), 2)) (by decide) rfl
theorem s_58_13 {K : gC} : gOk K g_Ms mi_58 13 (ga_iret) := gs_iret (by decide +kernel : decode mi_58.2.1 13 = .ok (.ireturn, 1)) rfl
theorem s_58_14 {K : gC} : gOk K g_Ms mi_58 14 (ga_iload 2 15) := gs_iload_n (by decide +kernel : decode mi_58.2.1 14 = .ok (.iload_n 2, 1)) rfl rfl
theorem s_58_15 {K : gC} : gOk K g_Ms mi_58 15 (ga_switch 0 [44, 54, 64, 80] 98) := gs_switch (by decide +kernel : decode mi_58.2.1 15 = .ok (.tableswitch 83 0 3 #[29, 39, 49, 65], 29)) (by decide) (by decide) (by decide)
theorem s_58_44 {K : gC} : gOk K g_Ms mi_58 44 (ga_aload 0 45) := gs_aload_n (by decide +kernel : decode mi_58.2.1 44 = .ok (.aload_n 0, 1)) rfl rfl
theorem s_58_45 {K : gC} : gOk K g_Ms mi_58 45 (ga_getR 6 1 48) := gs_getR gcls_6 (by decide) (by decide) gw_243 (by decide +kernel : decode mi_58.2.1 45 = .ok (.getfield 19, 3)) rfl
theorem s_58_48 {K : gC} : gOk K g_Ms mi_58 48 (ga_getR 0 2 51) := gs_getR gcls_0 (by decide) (by decide) gw_113 (by decide +kernel : decode mi_58.2.1 48 = .ok (.getfield 110, 3)) rfl
theorem s_58_51 {K : gC} : gOk K g_Ms mi_58 51 (ga_iload 1 52) := gs_iload_n (by decide +kernel : decode mi_58.2.1 51 = .ok (.iload_n 1, 1)) rfl rfl
theorem s_58_52 {K : gC} : gOk K g_Ms mi_58 52 (ga_iald 53) := gs_iald (by decide +kernel : decode mi_58.2.1 52 = .ok (.iaload, 1)) rfl
theorem s_58_53 {K : gC} : gOk K g_Ms mi_58 53 (ga_iret) := gs_iret (by decide +kernel : decode mi_58.2.1 53 = .ok (.ireturn, 1)) rfl
theorem s_58_54 {K : gC} : gOk K g_Ms mi_58 54 (ga_aload 0 55) := gs_aload_n (by decide +kernel : decode mi_58.2.1 54 = .ok (.aload_n 0, 1)) rfl rfl
theorem s_58_55 {K : gC} : gOk K g_Ms mi_58 55 (ga_getR 6 1 58) := gs_getR gcls_6 (by decide) (by decide) gw_243 (by decide +kernel : decode mi_58.2.1 55 = .ok (.getfield 19, 3)) rfl
theorem s_58_58 {K : gC} : gOk K g_Ms mi_58 58 (ga_getR 0 3 61) := gs_getR gcls_0 (by decide) (by decide) gw_117 (by decide +kernel : decode mi_58.2.1 58 = .ok (.getfield 113, 3)) rfl
theorem s_58_61 {K : gC} : gOk K g_Ms mi_58 61 (ga_iload 1 62) := gs_iload_n (by decide +kernel : decode mi_58.2.1 61 = .ok (.iload_n 1, 1)) rfl rfl
theorem s_58_62 {K : gC} : gOk K g_Ms mi_58 62 (ga_iald 63) := gs_iald (by decide +kernel : decode mi_58.2.1 62 = .ok (.iaload, 1)) rfl
theorem s_58_63 {K : gC} : gOk K g_Ms mi_58 63 (ga_iret) := gs_iret (by decide +kernel : decode mi_58.2.1 63 = .ok (.ireturn, 1)) rfl
theorem s_58_64 {K : gC} : gOk K g_Ms mi_58 64 (ga_aload 0 65) := gs_aload_n (by decide +kernel : decode mi_58.2.1 64 = .ok (.aload_n 0, 1)) rfl rfl
theorem s_58_65 {K : gC} : gOk K g_Ms mi_58 65 (ga_getR 6 1 68) := gs_getR gcls_6 (by decide) (by decide) gw_243 (by decide +kernel : decode mi_58.2.1 65 = .ok (.getfield 19, 3)) rfl
theorem s_58_68 {K : gC} : gOk K g_Ms mi_58 68 (ga_iload 1 69) := gs_iload_n (by decide +kernel : decode mi_58.2.1 68 = .ok (.iload_n 1, 1)) rfl rfl
theorem s_58_69 {K : gC} : gOk K g_Ms mi_58 69 (ga_aload 0 70) := gs_aload_n (by decide +kernel : decode mi_58.2.1 69 = .ok (.aload_n 0, 1)) rfl rfl
theorem s_58_70 {K : gC} : gOk K g_Ms mi_58 70 (ga_getR 6 3 73) := gs_getR gcls_6 (by decide) (by decide) gw_245 (by decide +kernel : decode mi_58.2.1 70 = .ok (.getfield 29, 3)) rfl
theorem s_58_73 {K : gC} : gOk K g_Ms mi_58 73 (ga_getI 2 4 76) := gs_getI gcls_2 (by decide) (by decide) gw_154 (by decide +kernel : decode mi_58.2.1 73 = .ok (.getfield 96, 3)) rfl
theorem s_58_76 {K : gC} : gOk K g_Ms mi_58 76 (ga_callV 0 5 2 79) := gs_callV gcls_0 (gce_X0_late (by decide) (by decide)) gw_432 gw_433 gw_434 (by decide +kernel : decode mi_58.2.1 76 = .ok (.invokevirtual 116, 3)) rfl
theorem s_58_79 {K : gC} : gOk K g_Ms mi_58 79 (ga_iret) := gs_iret (by decide +kernel : decode mi_58.2.1 79 = .ok (.ireturn, 1)) rfl
theorem s_58_80 {K : gC} : gOk K g_Ms mi_58 80 (ga_aload 0 81) := gs_aload_n (by decide +kernel : decode mi_58.2.1 80 = .ok (.aload_n 0, 1)) rfl rfl
theorem s_58_81 {K : gC} : gOk K g_Ms mi_58 81 (ga_getR 6 3 84) := gs_getR gcls_6 (by decide) (by decide) gw_245 (by decide +kernel : decode mi_58.2.1 81 = .ok (.getfield 29, 3)) rfl
theorem s_58_84 {K : gC} : gOk K g_Ms mi_58 84 (ga_getR 2 2 87) := gs_getR gcls_2 (by decide) (by decide) gw_150 (by decide +kernel : decode mi_58.2.1 84 = .ok (.getfield 120, 3)) rfl
theorem s_58_87 {K : gC} : gOk K g_Ms mi_58 87 (ga_iload 1 88) := gs_iload_n (by decide +kernel : decode mi_58.2.1 87 = .ok (.iload_n 1, 1)) rfl rfl
theorem s_58_88 {K : gC} : gOk K g_Ms mi_58 88 (ga_bald 89) := gs_zald (by decide +kernel : decode mi_58.2.1 88 = .ok (.baload, 1)) rfl
theorem s_58_89 {K : gC} : gOk K g_Ms mi_58 89 (ga_if (fun x => decide (x = 0)) 96 92) := gs_if_eq (by decide +kernel : decode mi_58.2.1 89 = .ok (.ifCond .eq 7, 3)) (by decide) rfl
theorem s_58_92 {K : gC} : gOk K g_Ms mi_58 92 (ga_push (.int 1) 93) := gs_iconst (by decide +kernel : decode mi_58.2.1 92 = .ok (.iconst 1, 1)) (by decide) rfl
theorem s_58_93 {K : gC} : gOk K g_Ms mi_58 93 (ga_goto 97) := gs_goto (by decide +kernel : decode mi_58.2.1 93 = .ok (.goto 4, 3)) (by decide)
theorem s_58_96 {K : gC} : gOk K g_Ms mi_58 96 (ga_push (.int 0) 97) := gs_iconst (by decide +kernel : decode mi_58.2.1 96 = .ok (.iconst 0, 1)) (by decide) rfl
theorem s_58_97 {K : gC} : gOk K g_Ms mi_58 97 (ga_iret) := gs_iret (by decide +kernel : decode mi_58.2.1 97 = .ok (.ireturn, 1)) rfl
theorem s_58_98 {K : gC} : gOk K g_Ms mi_58 98 (ga_push (.int (-3)) 100) := gs_bipush (by decide +kernel : decode mi_58.2.1 98 = .ok (.bipush (-3), 2)) (by decide) rfl
theorem s_58_100 {K : gC} : gOk K g_Ms mi_58 100 (ga_iret) := gs_iret (by decide +kernel : decode mi_58.2.1 100 = .ok (.ireturn, 1)) rfl
theorem ok_58 {K : gC} : ∀ e ∈ t_58, gOk K g_Ms mi_58 e.1 e.2 := by
  unfold t_58
  simp only [List.forall_mem_cons, List.not_mem_nil, false_implies, implies_true, and_true]
  exact ⟨s_58_0, s_58_1, s_58_4, s_58_5, s_58_8, s_58_11, s_58_13, s_58_14, s_58_15, s_58_44, s_58_45, s_58_48, s_58_51, s_58_52, s_58_53, s_58_54, s_58_55, s_58_58, s_58_61, s_58_62, s_58_63, s_58_64, s_58_65, s_58_68, s_58_69, s_58_70, s_58_73, s_58_76, s_58_79, s_58_80, s_58_81, s_58_84, s_58_87, s_58_88, s_58_89, s_58_92, s_58_93, s_58_96, s_58_97, s_58_98, s_58_100⟩
theorem s_59_0 {K : gC} : gOk K g_Ms mi_59 0 (ga_aload 0 1) := gs_aload_n (by decide +kernel : decode mi_59.2.1 0 = .ok (.aload_n 0, 1)) rfl rfl
theorem s_59_1 {K : gC} : gOk K g_Ms mi_59 1 (ga_getR 6 1 4) := gs_getR gcls_6 (by decide) (by decide) gw_243 (by decide +kernel : decode mi_59.2.1 1 = .ok (.getfield 19, 3)) rfl
theorem s_59_4 {K : gC} : gOk K g_Ms mi_59 4 (ga_iload 1 5) := gs_iload_n (by decide +kernel : decode mi_59.2.1 4 = .ok (.iload_n 1, 1)) rfl rfl
theorem s_59_5 {K : gC} : gOk K g_Ms mi_59 5 (ga_callV 0 3 1 8) := gs_callV gcls_0 (gce_X0_has (by decide) (by decide)) gw_416 gw_417 gw_418 (by decide +kernel : decode mi_59.2.1 5 = .ok (.invokevirtual 85, 3)) rfl
theorem s_59_8 {K : gC} : gOk K g_Ms mi_59 8 (ga_if (fun x => decide (¬ x = 0)) 14 11) := gs_if_ne (by decide +kernel : decode mi_59.2.1 8 = .ok (.ifCond .ne 6, 3)) (by decide) rfl
theorem s_59_11 {K : gC} : gOk K g_Ms mi_59 11 (ga_push (.int (-2)) 13) := gs_bipush (by decide +kernel : decode mi_59.2.1 11 = .ok (.bipush (-2), 2)) (by decide) rfl
theorem s_59_13 {K : gC} : gOk K g_Ms mi_59 13 (ga_iret) := gs_iret (by decide +kernel : decode mi_59.2.1 13 = .ok (.ireturn, 1)) rfl
theorem s_59_14 {K : gC} : gOk K g_Ms mi_59 14 (ga_iload 2 15) := gs_iload_n (by decide +kernel : decode mi_59.2.1 14 = .ok (.iload_n 2, 1)) rfl rfl
theorem s_59_15 {K : gC} : gOk K g_Ms mi_59 15 (ga_if (fun x => decide (x < 0)) 26 18) := gs_if_lt (by decide +kernel : decode mi_59.2.1 15 = .ok (.ifCond .lt 11, 3)) (by decide) rfl
theorem s_59_18 {K : gC} : gOk K g_Ms mi_59 18 (ga_iload 2 19) := gs_iload_n (by decide +kernel : decode mi_59.2.1 18 = .ok (.iload_n 2, 1)) rfl rfl
theorem s_59_19 {K : gC} : gOk K g_Ms mi_59 19 (ga_push (.ref 1000) 22) := gs_getsK gw_440 (by decide +kernel : decode mi_59.2.1 19 = .ok (.getstatic 123, 3)) rfl
theorem s_59_22 {K : gC} : gOk K g_Ms mi_59 22 (ga_alen 23) := gs_alen (by decide +kernel : decode mi_59.2.1 22 = .ok (.arraylength, 1)) rfl
theorem s_59_23 {K : gC} : gOk K g_Ms mi_59 23 (ga_cmp (fun x y => decide (x < y)) 29 26) := gs_cmp_lt (by decide +kernel : decode mi_59.2.1 23 = .ok (.if_icmp .lt 6, 3)) (by decide) rfl
theorem s_59_26 {K : gC} : gOk K g_Ms mi_59 26 (ga_push (.int (-3)) 28) := gs_bipush (by decide +kernel : decode mi_59.2.1 26 = .ok (.bipush (-3), 2)) (by decide) rfl
theorem s_59_28 {K : gC} : gOk K g_Ms mi_59 28 (ga_iret) := gs_iret (by decide +kernel : decode mi_59.2.1 28 = .ok (.ireturn, 1)) rfl
theorem s_59_29 {K : gC} : gOk K g_Ms mi_59 29 (ga_aload 0 30) := gs_aload_n (by decide +kernel : decode mi_59.2.1 29 = .ok (.aload_n 0, 1)) rfl rfl
theorem s_59_30 {K : gC} : gOk K g_Ms mi_59 30 (ga_getR 6 1 33) := gs_getR gcls_6 (by decide) (by decide) gw_243 (by decide +kernel : decode mi_59.2.1 30 = .ok (.getfield 19, 3)) rfl
theorem s_59_33 {K : gC} : gOk K g_Ms mi_59 33 (ga_getR 0 2 36) := gs_getR gcls_0 (by decide) (by decide) gw_113 (by decide +kernel : decode mi_59.2.1 33 = .ok (.getfield 110, 3)) rfl
theorem s_59_36 {K : gC} : gOk K g_Ms mi_59 36 (ga_iload 1 37) := gs_iload_n (by decide +kernel : decode mi_59.2.1 36 = .ok (.iload_n 1, 1)) rfl rfl
theorem s_59_37 {K : gC} : gOk K g_Ms mi_59 37 (ga_iald 38) := gs_iald (by decide +kernel : decode mi_59.2.1 37 = .ok (.iaload, 1)) rfl
theorem s_59_38 {K : gC} : gOk K g_Ms mi_59 38 (ga_iload 2 39) := gs_iload_n (by decide +kernel : decode mi_59.2.1 38 = .ok (.iload_n 2, 1)) rfl rfl
theorem s_59_39 {K : gC} : gOk K g_Ms mi_59 39 (ga_call 60 2 42) := gs_callS (gce_X6_isSuch (by decide) (by decide)) gw_442 gw_443 (by decide +kernel : decode mi_59.2.1 39 = .ok (.invokestatic 126, 3)) rfl
theorem s_59_42 {K : gC} : gOk K g_Ms mi_59 42 (ga_if (fun x => decide (x = 0)) 63 45) := gs_if_eq (by decide +kernel : decode mi_59.2.1 42 = .ok (.ifCond .eq 21, 3)) (by decide) rfl
theorem s_59_45 {K : gC} : gOk K g_Ms mi_59 45 (ga_aload 0 46) := gs_aload_n (by decide +kernel : decode mi_59.2.1 45 = .ok (.aload_n 0, 1)) rfl rfl
theorem s_59_46 {K : gC} : gOk K g_Ms mi_59 46 (ga_getR 6 1 49) := gs_getR gcls_6 (by decide) (by decide) gw_243 (by decide +kernel : decode mi_59.2.1 46 = .ok (.getfield 19, 3)) rfl
theorem s_59_49 {K : gC} : gOk K g_Ms mi_59 49 (ga_iload 1 50) := gs_iload_n (by decide +kernel : decode mi_59.2.1 49 = .ok (.iload_n 1, 1)) rfl rfl
theorem s_59_50 {K : gC} : gOk K g_Ms mi_59 50 (ga_aload 0 51) := gs_aload_n (by decide +kernel : decode mi_59.2.1 50 = .ok (.aload_n 0, 1)) rfl rfl
theorem s_59_51 {K : gC} : gOk K g_Ms mi_59 51 (ga_getR 6 3 54) := gs_getR gcls_6 (by decide) (by decide) gw_245 (by decide +kernel : decode mi_59.2.1 51 = .ok (.getfield 29, 3)) rfl
theorem s_59_54 {K : gC} : gOk K g_Ms mi_59 54 (ga_getI 2 4 57) := gs_getI gcls_2 (by decide) (by decide) gw_154 (by decide +kernel : decode mi_59.2.1 54 = .ok (.getfield 96, 3)) rfl
theorem s_59_57 {K : gC} : gOk K g_Ms mi_59 57 (ga_callV 0 5 2 60) := gs_callV gcls_0 (gce_X0_late (by decide) (by decide)) gw_432 gw_433 gw_434 (by decide +kernel : decode mi_59.2.1 57 = .ok (.invokevirtual 116, 3)) rfl
theorem s_59_60 {K : gC} : gOk K g_Ms mi_59 60 (ga_goto 65) := gs_goto (by decide +kernel : decode mi_59.2.1 60 = .ok (.goto 5, 3)) (by decide)
theorem s_59_63 {K : gC} : gOk K g_Ms mi_59 63 (ga_push (.int (-4)) 65) := gs_bipush (by decide +kernel : decode mi_59.2.1 63 = .ok (.bipush (-4), 2)) (by decide) rfl
theorem s_59_65 {K : gC} : gOk K g_Ms mi_59 65 (ga_iret) := gs_iret (by decide +kernel : decode mi_59.2.1 65 = .ok (.ireturn, 1)) rfl
theorem ok_59 {K : gC} : ∀ e ∈ t_59, gOk K g_Ms mi_59 e.1 e.2 := by
  unfold t_59
  simp only [List.forall_mem_cons, List.not_mem_nil, false_implies, implies_true, and_true]
  exact ⟨s_59_0, s_59_1, s_59_4, s_59_5, s_59_8, s_59_11, s_59_13, s_59_14, s_59_15, s_59_18, s_59_19, s_59_22, s_59_23, s_59_26, s_59_28, s_59_29, s_59_30, s_59_33, s_59_36, s_59_37, s_59_38, s_59_39, s_59_42, s_59_45, s_59_46, s_59_49, s_59_50, s_59_51, s_59_54, s_59_57, s_59_60, s_59_63, s_59_65⟩
theorem s_60_0 {K : gC} : gOk K g_Ms mi_60 0 (ga_iload 0 1) := gs_iload_n (by decide +kernel : decode mi_60.2.1 0 = .ok (.iload_n 0, 1)) rfl rfl
theorem s_60_1 {K : gC} : gOk K g_Ms mi_60 1 (ga_push (.int 1) 2) := gs_iconst (by decide +kernel : decode mi_60.2.1 1 = .ok (.iconst 1, 1)) (by decide) rfl
theorem s_60_2 {K : gC} : gOk K g_Ms mi_60 2 (ga_bin (fun x y => x + y) 3) := gs_iadd (by decide +kernel : decode mi_60.2.1 2 = .ok (.iadd, 1)) rfl
theorem s_60_3 {K : gC} : gOk K g_Ms mi_60 3 (ga_istore 2 4) := gs_istore_n (by decide +kernel : decode mi_60.2.1 3 = .ok (.istore_n 2, 1)) rfl rfl
theorem s_60_4 {K : gC} : gOk K g_Ms mi_60 4 (ga_push (.int 0) 5) := gs_iconst (by decide +kernel : decode mi_60.2.1 4 = .ok (.iconst 0, 1)) (by decide) rfl
theorem s_60_5 {K : gC} : gOk K g_Ms mi_60 5 (ga_istore 3 6) := gs_istore_n (by decide +kernel : decode mi_60.2.1 5 = .ok (.istore_n 3, 1)) rfl rfl
theorem s_60_6 {K : gC} : gOk K g_Ms mi_60 6 (ga_iload 3 7) := gs_iload_n (by decide +kernel : decode mi_60.2.1 6 = .ok (.iload_n 3, 1)) rfl rfl
theorem s_60_7 {K : gC} : gOk K g_Ms mi_60 7 (ga_push (.ref 1000) 10) := gs_getsK gw_440 (by decide +kernel : decode mi_60.2.1 7 = .ok (.getstatic 123, 3)) rfl
theorem s_60_10 {K : gC} : gOk K g_Ms mi_60 10 (ga_alen 11) := gs_alen (by decide +kernel : decode mi_60.2.1 10 = .ok (.arraylength, 1)) rfl
theorem s_60_11 {K : gC} : gOk K g_Ms mi_60 11 (ga_cmp (fun x y => decide (y ≤ x)) 47 14) := gs_cmp_ge (by decide +kernel : decode mi_60.2.1 11 = .ok (.if_icmp .ge 36, 3)) (by decide) rfl
theorem s_60_14 {K : gC} : gOk K g_Ms mi_60 14 (ga_iload 2 15) := gs_iload_n (by decide +kernel : decode mi_60.2.1 14 = .ok (.iload_n 2, 1)) rfl rfl
theorem s_60_15 {K : gC} : gOk K g_Ms mi_60 15 (ga_if (fun x => decide (x < 0)) 26 18) := gs_if_lt (by decide +kernel : decode mi_60.2.1 15 = .ok (.ifCond .lt 11, 3)) (by decide) rfl
theorem s_60_18 {K : gC} : gOk K g_Ms mi_60 18 (ga_iload 2 19) := gs_iload_n (by decide +kernel : decode mi_60.2.1 18 = .ok (.iload_n 2, 1)) rfl rfl
theorem s_60_19 {K : gC} : gOk K g_Ms mi_60 19 (ga_push (.ref 1000) 22) := gs_getsK gw_440 (by decide +kernel : decode mi_60.2.1 19 = .ok (.getstatic 123, 3)) rfl
theorem s_60_22 {K : gC} : gOk K g_Ms mi_60 22 (ga_alen 23) := gs_alen (by decide +kernel : decode mi_60.2.1 22 = .ok (.arraylength, 1)) rfl
theorem s_60_23 {K : gC} : gOk K g_Ms mi_60 23 (ga_cmp (fun x y => decide (x < y)) 28 26) := gs_cmp_lt (by decide +kernel : decode mi_60.2.1 23 = .ok (.if_icmp .lt 5, 3)) (by decide) rfl
theorem s_60_26 {K : gC} : gOk K g_Ms mi_60 26 (ga_push (.int 0) 27) := gs_iconst (by decide +kernel : decode mi_60.2.1 26 = .ok (.iconst 0, 1)) (by decide) rfl
theorem s_60_27 {K : gC} : gOk K g_Ms mi_60 27 (ga_zret) := gs_zret (by decide +kernel : decode mi_60.2.1 27 = .ok (.ireturn, 1)) rfl rfl rfl
theorem s_60_28 {K : gC} : gOk K g_Ms mi_60 28 (ga_iload 2 29) := gs_iload_n (by decide +kernel : decode mi_60.2.1 28 = .ok (.iload_n 2, 1)) rfl rfl
theorem s_60_29 {K : gC} : gOk K g_Ms mi_60 29 (ga_iload 1 30) := gs_iload_n (by decide +kernel : decode mi_60.2.1 29 = .ok (.iload_n 1, 1)) rfl rfl
theorem s_60_30 {K : gC} : gOk K g_Ms mi_60 30 (ga_cmp (fun x y => decide (¬ x = y)) 35 33) := gs_cmp_ne (by decide +kernel : decode mi_60.2.1 30 = .ok (.if_icmp .ne 5, 3)) (by decide) rfl
theorem s_60_33 {K : gC} : gOk K g_Ms mi_60 33 (ga_push (.int 1) 34) := gs_iconst (by decide +kernel : decode mi_60.2.1 33 = .ok (.iconst 1, 1)) (by decide) rfl
theorem s_60_34 {K : gC} : gOk K g_Ms mi_60 34 (ga_zret) := gs_zret (by decide +kernel : decode mi_60.2.1 34 = .ok (.ireturn, 1)) rfl rfl rfl
theorem s_60_35 {K : gC} : gOk K g_Ms mi_60 35 (ga_push (.ref 1000) 38) := gs_getsK gw_440 (by decide +kernel : decode mi_60.2.1 35 = .ok (.getstatic 123, 3)) rfl
theorem s_60_38 {K : gC} : gOk K g_Ms mi_60 38 (ga_iload 2 39) := gs_iload_n (by decide +kernel : decode mi_60.2.1 38 = .ok (.iload_n 2, 1)) rfl rfl
theorem s_60_39 {K : gC} : gOk K g_Ms mi_60 39 (ga_iald 40) := gs_iald (by decide +kernel : decode mi_60.2.1 39 = .ok (.iaload, 1)) rfl
theorem s_60_40 {K : gC} : gOk K g_Ms mi_60 40 (ga_istore 2 41) := gs_istore_n (by decide +kernel : decode mi_60.2.1 40 = .ok (.istore_n 2, 1)) rfl rfl
theorem s_60_41 {K : gC} : gOk K g_Ms mi_60 41 (ga_iinc 3 1 44) := gs_iinc (by decide +kernel : decode mi_60.2.1 41 = .ok (.iinc 3 1, 3)) (by decide) rfl
theorem s_60_44 {K : gC} : gOk K g_Ms mi_60 44 (ga_goto 6) := gs_goto (by decide +kernel : decode mi_60.2.1 44 = .ok (.goto (-38), 3)) (by decide)
theorem s_60_47 {K : gC} : gOk K g_Ms mi_60 47 (ga_push (.int 0) 48) := gs_iconst (by decide +kernel : decode mi_60.2.1 47 = .ok (.iconst 0, 1)) (by decide) rfl
theorem s_60_48 {K : gC} : gOk K g_Ms mi_60 48 (ga_zret) := gs_zret (by decide +kernel : decode mi_60.2.1 48 = .ok (.ireturn, 1)) rfl rfl rfl
theorem ok_60 {K : gC} : ∀ e ∈ t_60, gOk K g_Ms mi_60 e.1 e.2 := by
  unfold t_60
  simp only [List.forall_mem_cons, List.not_mem_nil, false_implies, implies_true, and_true]
  exact ⟨s_60_0, s_60_1, s_60_2, s_60_3, s_60_4, s_60_5, s_60_6, s_60_7, s_60_10, s_60_11, s_60_14, s_60_15, s_60_18, s_60_19, s_60_22, s_60_23, s_60_26, s_60_27, s_60_28, s_60_29, s_60_30, s_60_33, s_60_34, s_60_35, s_60_38, s_60_39, s_60_40, s_60_41, s_60_44, s_60_47, s_60_48⟩
theorem s_61_0 {K : gC} : gOk K g_Ms mi_61 0 (ga_aload 0 1) := gs_aload_n (by decide +kernel : decode mi_61.2.1 0 = .ok (.aload_n 0, 1)) rfl rfl
theorem s_61_1 {K : gC} : gOk K g_Ms mi_61 1 (ga_getR 6 1 4) := gs_getR gcls_6 (by decide) (by decide) gw_243 (by decide +kernel : decode mi_61.2.1 1 = .ok (.getfield 19, 3)) rfl
theorem s_61_4 {K : gC} : gOk K g_Ms mi_61 4 (ga_iload 1 5) := gs_iload_n (by decide +kernel : decode mi_61.2.1 4 = .ok (.iload_n 1, 1)) rfl rfl
theorem s_61_5 {K : gC} : gOk K g_Ms mi_61 5 (ga_callV 0 3 1 8) := gs_callV gcls_0 (gce_X0_has (by decide) (by decide)) gw_416 gw_417 gw_418 (by decide +kernel : decode mi_61.2.1 5 = .ok (.invokevirtual 85, 3)) rfl
theorem s_61_8 {K : gC} : gOk K g_Ms mi_61 8 (ga_if (fun x => decide (x = 0)) 26 11) := gs_if_eq (by decide +kernel : decode mi_61.2.1 8 = .ok (.ifCond .eq 18, 3)) (by decide) rfl
theorem s_61_11 {K : gC} : gOk K g_Ms mi_61 11 (ga_aload 0 12) := gs_aload_n (by decide +kernel : decode mi_61.2.1 11 = .ok (.aload_n 0, 1)) rfl rfl
theorem s_61_12 {K : gC} : gOk K g_Ms mi_61 12 (ga_getR 6 3 15) := gs_getR gcls_6 (by decide) (by decide) gw_245 (by decide +kernel : decode mi_61.2.1 12 = .ok (.getfield 29, 3)) rfl
theorem s_61_15 {K : gC} : gOk K g_Ms mi_61 15 (ga_aload 0 16) := gs_aload_n (by decide +kernel : decode mi_61.2.1 15 = .ok (.aload_n 0, 1)) rfl rfl
theorem s_61_16 {K : gC} : gOk K g_Ms mi_61 16 (ga_getR 6 1 19) := gs_getR gcls_6 (by decide) (by decide) gw_243 (by decide +kernel : decode mi_61.2.1 16 = .ok (.getfield 19, 3)) rfl
theorem s_61_19 {K : gC} : gOk K g_Ms mi_61 19 (ga_iload 1 20) := gs_iload_n (by decide +kernel : decode mi_61.2.1 19 = .ok (.iload_n 1, 1)) rfl rfl
theorem s_61_20 {K : gC} : gOk K g_Ms mi_61 20 (ga_callV 2 25 2 23) := gs_callV gcls_2 (gce_X2_soundGong (by decide) (by decide)) gw_449 gw_450 gw_451 (by decide +kernel : decode mi_61.2.1 20 = .ok (.invokevirtual 129, 3)) rfl
theorem s_61_23 {K : gC} : gOk K g_Ms mi_61 23 (ga_goto 28) := gs_goto (by decide +kernel : decode mi_61.2.1 23 = .ok (.goto 5, 3)) (by decide)
theorem s_61_26 {K : gC} : gOk K g_Ms mi_61 26 (ga_push (.int (-2)) 28) := gs_bipush (by decide +kernel : decode mi_61.2.1 26 = .ok (.bipush (-2), 2)) (by decide) rfl
theorem s_61_28 {K : gC} : gOk K g_Ms mi_61 28 (ga_iret) := gs_iret (by decide +kernel : decode mi_61.2.1 28 = .ok (.ireturn, 1)) rfl
theorem ok_61 {K : gC} : ∀ e ∈ t_61, gOk K g_Ms mi_61 e.1 e.2 := by
  unfold t_61
  simp only [List.forall_mem_cons, List.not_mem_nil, false_implies, implies_true, and_true]
  exact ⟨s_61_0, s_61_1, s_61_4, s_61_5, s_61_8, s_61_11, s_61_12, s_61_15, s_61_16, s_61_19, s_61_20, s_61_23, s_61_26, s_61_28⟩
theorem s_62_0 {K : gC} : gOk K g_Ms mi_62 0 (ga_iload 1 1) := gs_iload_n (by decide +kernel : decode mi_62.2.1 0 = .ok (.iload_n 1, 1)) rfl rfl
theorem s_62_1 {K : gC} : gOk K g_Ms mi_62 1 (ga_push (.int 1) 2) := gs_iconst (by decide +kernel : decode mi_62.2.1 1 = .ok (.iconst 1, 1)) (by decide) rfl
theorem s_62_2 {K : gC} : gOk K g_Ms mi_62 2 (ga_cmp (fun x y => decide (x < y)) 11 5) := gs_cmp_lt (by decide +kernel : decode mi_62.2.1 2 = .ok (.if_icmp .lt 9, 3)) (by decide) rfl
theorem s_62_5 {K : gC} : gOk K g_Ms mi_62 5 (ga_iload 1 6) := gs_iload_n (by decide +kernel : decode mi_62.2.1 5 = .ok (.iload_n 1, 1)) rfl rfl
theorem s_62_6 {K : gC} : gOk K g_Ms mi_62 6 (ga_push (.int 99) 8) := gs_bipush (by decide +kernel : decode mi_62.2.1 6 = .ok (.bipush 99, 2)) (by decide) rfl
theorem s_62_8 {K : gC} : gOk K g_Ms mi_62 8 (ga_cmp (fun x y => decide (x ≤ y)) 14 11) := gs_cmp_le (by decide +kernel : decode mi_62.2.1 8 = .ok (.if_icmp .le 6, 3)) (by decide) rfl
theorem s_62_11 {K : gC} : gOk K g_Ms mi_62 11 (ga_push (.int (-3)) 13) := gs_bipush (by decide +kernel : decode mi_62.2.1 11 = .ok (.bipush (-3), 2)) (by decide) rfl
theorem s_62_13 {K : gC} : gOk K g_Ms mi_62 13 (ga_iret) := gs_iret (by decide +kernel : decode mi_62.2.1 13 = .ok (.ireturn, 1)) rfl
theorem s_62_14 {K : gC} : gOk K g_Ms mi_62 14 (ga_aload 0 15) := gs_aload_n (by decide +kernel : decode mi_62.2.1 14 = .ok (.aload_n 0, 1)) rfl rfl
theorem s_62_15 {K : gC} : gOk K g_Ms mi_62 15 (ga_getR 6 3 18) := gs_getR gcls_6 (by decide) (by decide) gw_245 (by decide +kernel : decode mi_62.2.1 15 = .ok (.getfield 29, 3)) rfl
theorem s_62_18 {K : gC} : gOk K g_Ms mi_62 18 (ga_getI 2 3 21) := gs_getI gcls_2 (by decide) (by decide) gw_152 (by decide +kernel : decode mi_62.2.1 18 = .ok (.getfield 133, 3)) rfl
theorem s_62_21 {K : gC} : gOk K g_Ms mi_62 21 (ga_iload 1 22) := gs_iload_n (by decide +kernel : decode mi_62.2.1 21 = .ok (.iload_n 1, 1)) rfl rfl
theorem s_62_22 {K : gC} : gOk K g_Ms mi_62 22 (ga_bin (fun x y => x + y) 23) := gs_iadd (by decide +kernel : decode mi_62.2.1 22 = .ok (.iadd, 1)) rfl
theorem s_62_23 {K : gC} : gOk K g_Ms mi_62 23 (ga_push (.int 99999) 25) := gs_ldc (by decide +kernel : decode mi_62.2.1 23 = .ok (.ldc 136, 2)) gw_463 rfl
theorem s_62_25 {K : gC} : gOk K g_Ms mi_62 25 (ga_cmp (fun x y => decide (x ≤ y)) 31 28) := gs_cmp_le (by decide +kernel : decode mi_62.2.1 25 = .ok (.if_icmp .le 6, 3)) (by decide) rfl
theorem s_62_28 {K : gC} : gOk K g_Ms mi_62 28 (ga_push (.int (-5)) 30) := gs_bipush (by decide +kernel : decode mi_62.2.1 28 = .ok (.bipush (-5), 2)) (by decide) rfl
theorem s_62_30 {K : gC} : gOk K g_Ms mi_62 30 (ga_iret) := gs_iret (by decide +kernel : decode mi_62.2.1 30 = .ok (.ireturn, 1)) rfl
theorem s_62_31 {K : gC} : gOk K g_Ms mi_62 31 (ga_push (.int 0) 32) := gs_iconst (by decide +kernel : decode mi_62.2.1 31 = .ok (.iconst 0, 1)) (by decide) rfl
theorem s_62_32 {K : gC} : gOk K g_Ms mi_62 32 (ga_istore 2 33) := gs_istore_n (by decide +kernel : decode mi_62.2.1 32 = .ok (.istore_n 2, 1)) rfl rfl
theorem s_62_33 {K : gC} : gOk K g_Ms mi_62 33 (ga_push (.int 0) 34) := gs_iconst (by decide +kernel : decode mi_62.2.1 33 = .ok (.iconst 0, 1)) (by decide) rfl
theorem s_62_34 {K : gC} : gOk K g_Ms mi_62 34 (ga_istore 3 35) := gs_istore_n (by decide +kernel : decode mi_62.2.1 34 = .ok (.istore_n 3, 1)) rfl rfl
theorem s_62_35 {K : gC} : gOk K g_Ms mi_62 35 (ga_iload 3 36) := gs_iload_n (by decide +kernel : decode mi_62.2.1 35 = .ok (.iload_n 3, 1)) rfl rfl
theorem s_62_36 {K : gC} : gOk K g_Ms mi_62 36 (ga_iload 1 37) := gs_iload_n (by decide +kernel : decode mi_62.2.1 36 = .ok (.iload_n 1, 1)) rfl rfl
theorem s_62_37 {K : gC} : gOk K g_Ms mi_62 37 (ga_cmp (fun x y => decide (y ≤ x)) 60 40) := gs_cmp_ge (by decide +kernel : decode mi_62.2.1 37 = .ok (.if_icmp .ge 23, 3)) (by decide) rfl
theorem s_62_40 {K : gC} : gOk K g_Ms mi_62 40 (ga_iload 2 41) := gs_iload_n (by decide +kernel : decode mi_62.2.1 40 = .ok (.iload_n 2, 1)) rfl rfl
theorem s_62_41 {K : gC} : gOk K g_Ms mi_62 41 (ga_aload 0 42) := gs_aload_n (by decide +kernel : decode mi_62.2.1 41 = .ok (.aload_n 0, 1)) rfl rfl
theorem s_62_42 {K : gC} : gOk K g_Ms mi_62 42 (ga_getR 6 3 45) := gs_getR gcls_6 (by decide) (by decide) gw_245 (by decide +kernel : decode mi_62.2.1 42 = .ok (.getfield 29, 3)) rfl
theorem s_62_45 {K : gC} : gOk K g_Ms mi_62 45 (ga_aload 0 46) := gs_aload_n (by decide +kernel : decode mi_62.2.1 45 = .ok (.aload_n 0, 1)) rfl rfl
theorem s_62_46 {K : gC} : gOk K g_Ms mi_62 46 (ga_getR 6 1 49) := gs_getR gcls_6 (by decide) (by decide) gw_243 (by decide +kernel : decode mi_62.2.1 46 = .ok (.getfield 19, 3)) rfl
theorem s_62_49 {K : gC} : gOk K g_Ms mi_62 49 (ga_callV 2 27 1 52) := gs_callV gcls_2 (gce_X2_passMinute (by decide) (by decide)) gw_464 gw_465 gw_466 (by decide +kernel : decode mi_62.2.1 49 = .ok (.invokevirtual 137, 3)) rfl
theorem s_62_52 {K : gC} : gOk K g_Ms mi_62 52 (ga_bin (fun x y => x + y) 53) := gs_iadd (by decide +kernel : decode mi_62.2.1 52 = .ok (.iadd, 1)) rfl
theorem s_62_53 {K : gC} : gOk K g_Ms mi_62 53 (ga_istore 2 54) := gs_istore_n (by decide +kernel : decode mi_62.2.1 53 = .ok (.istore_n 2, 1)) rfl rfl
theorem s_62_54 {K : gC} : gOk K g_Ms mi_62 54 (ga_iinc 3 1 57) := gs_iinc (by decide +kernel : decode mi_62.2.1 54 = .ok (.iinc 3 1, 3)) (by decide) rfl
theorem s_62_57 {K : gC} : gOk K g_Ms mi_62 57 (ga_goto 35) := gs_goto (by decide +kernel : decode mi_62.2.1 57 = .ok (.goto (-22), 3)) (by decide)
theorem s_62_60 {K : gC} : gOk K g_Ms mi_62 60 (ga_iload 2 61) := gs_iload_n (by decide +kernel : decode mi_62.2.1 60 = .ok (.iload_n 2, 1)) rfl rfl
theorem s_62_61 {K : gC} : gOk K g_Ms mi_62 61 (ga_iret) := gs_iret (by decide +kernel : decode mi_62.2.1 61 = .ok (.ireturn, 1)) rfl
theorem ok_62 {K : gC} : ∀ e ∈ t_62, gOk K g_Ms mi_62 e.1 e.2 := by
  unfold t_62
  simp only [List.forall_mem_cons, List.not_mem_nil, false_implies, implies_true, and_true]
  exact ⟨s_62_0, s_62_1, s_62_2, s_62_5, s_62_6, s_62_8, s_62_11, s_62_13, s_62_14, s_62_15, s_62_18, s_62_21, s_62_22, s_62_23, s_62_25, s_62_28, s_62_30, s_62_31, s_62_32, s_62_33, s_62_34, s_62_35, s_62_36, s_62_37, s_62_40, s_62_41, s_62_42, s_62_45, s_62_46, s_62_49, s_62_52, s_62_53, s_62_54, s_62_57, s_62_60, s_62_61⟩
theorem s_63_0 {K : gC} : gOk K g_Ms mi_63 0 (ga_iload 1 1) := gs_iload_n (by decide +kernel : decode mi_63.2.1 0 = .ok (.iload_n 1, 1)) rfl rfl
theorem s_63_1 {K : gC} : gOk K g_Ms mi_63 1 (ga_if (fun x => decide (x < 0)) 9 4) := gs_if_lt (by decide +kernel : decode mi_63.2.1 1 = .ok (.ifCond .lt 8, 3)) (by decide) rfl
theorem s_63_4 {K : gC} : gOk K g_Ms mi_63 4 (ga_iload 1 5) := gs_iload_n (by decide +kernel : decode mi_63.2.1 4 = .ok (.iload_n 1, 1)) rfl rfl
theorem s_63_5 {K : gC} : gOk K g_Ms mi_63 5 (ga_push (.int 2) 6) := gs_iconst (by decide +kernel : decode mi_63.2.1 5 = .ok (.iconst 2, 1)) (by decide) rfl
theorem s_63_6 {K : gC} : gOk K g_Ms mi_63 6 (ga_cmp (fun x y => decide (x ≤ y)) 12 9) := gs_cmp_le (by decide +kernel : decode mi_63.2.1 6 = .ok (.if_icmp .le 6, 3)) (by decide) rfl
theorem s_63_9 {K : gC} : gOk K g_Ms mi_63 9 (ga_push (.int (-3)) 11) := gs_bipush (by decide +kernel : decode mi_63.2.1 9 = .ok (.bipush (-3), 2)) (by decide) rfl
theorem s_63_11 {K : gC} : gOk K g_Ms mi_63 11 (ga_iret) := gs_iret (by decide +kernel : decode mi_63.2.1 11 = .ok (.ireturn, 1)) rfl
theorem s_63_12 {K : gC} : gOk K g_Ms mi_63 12 (ga_aload 0 13) := gs_aload_n (by decide +kernel : decode mi_63.2.1 12 = .ok (.aload_n 0, 1)) rfl rfl
theorem s_63_13 {K : gC} : gOk K g_Ms mi_63 13 (ga_getR 6 3 16) := gs_getR gcls_6 (by decide) (by decide) gw_245 (by decide +kernel : decode mi_63.2.1 13 = .ok (.getfield 29, 3)) rfl
theorem s_63_16 {K : gC} : gOk K g_Ms mi_63 16 (ga_getI 2 4 19) := gs_getI gcls_2 (by decide) (by decide) gw_154 (by decide +kernel : decode mi_63.2.1 16 = .ok (.getfield 96, 3)) rfl
theorem s_63_19 {K : gC} : gOk K g_Ms mi_63 19 (ga_istore 2 20) := gs_istore_n (by decide +kernel : decode mi_63.2.1 19 = .ok (.istore_n 2, 1)) rfl rfl
theorem s_63_20 {K : gC} : gOk K g_Ms mi_63 20 (ga_aload 0 21) := gs_aload_n (by decide +kernel : decode mi_63.2.1 20 = .ok (.aload_n 0, 1)) rfl rfl
theorem s_63_21 {K : gC} : gOk K g_Ms mi_63 21 (ga_getR 6 3 24) := gs_getR gcls_6 (by decide) (by decide) gw_245 (by decide +kernel : decode mi_63.2.1 21 = .ok (.getfield 29, 3)) rfl
theorem s_63_24 {K : gC} : gOk K g_Ms mi_63 24 (ga_iload 1 25) := gs_iload_n (by decide +kernel : decode mi_63.2.1 24 = .ok (.iload_n 1, 1)) rfl rfl
theorem s_63_25 {K : gC} : gOk K g_Ms mi_63 25 (ga_putI 2 4 28) := gs_putI gcls_2 (by decide) (by decide) rfl rfl gw_154 (by decide +kernel : decode mi_63.2.1 25 = .ok (.putfield 96, 3)) rfl
theorem s_63_28 {K : gC} : gOk K g_Ms mi_63 28 (ga_iload 2 29) := gs_iload_n (by decide +kernel : decode mi_63.2.1 28 = .ok (.iload_n 2, 1)) rfl rfl
theorem s_63_29 {K : gC} : gOk K g_Ms mi_63 29 (ga_iret) := gs_iret (by decide +kernel : decode mi_63.2.1 29 = .ok (.ireturn, 1)) rfl
theorem ok_63 {K : gC} : ∀ e ∈ t_63, gOk K g_Ms mi_63 e.1 e.2 := by
  unfold t_63
  simp only [List.forall_mem_cons, List.not_mem_nil, false_implies, implies_true, and_true]
  exact ⟨s_63_0, s_63_1, s_63_4, s_63_5, s_63_6, s_63_9, s_63_11, s_63_12, s_63_13, s_63_16, s_63_19, s_63_20, s_63_21, s_63_24, s_63_25, s_63_28, s_63_29⟩
theorem s_64_0 {K : gC} : gOk K g_Ms mi_64 0 (ga_iload 1 1) := gs_iload_n (by decide +kernel : decode mi_64.2.1 0 = .ok (.iload_n 1, 1)) rfl rfl
theorem s_64_1 {K : gC} : gOk K g_Ms mi_64 1 (ga_if (fun x => decide (x < 0)) 9 4) := gs_if_lt (by decide +kernel : decode mi_64.2.1 1 = .ok (.ifCond .lt 8, 3)) (by decide) rfl
theorem s_64_4 {K : gC} : gOk K g_Ms mi_64 4 (ga_iload 1 5) := gs_iload_n (by decide +kernel : decode mi_64.2.1 4 = .ok (.iload_n 1, 1)) rfl rfl
theorem s_64_5 {K : gC} : gOk K g_Ms mi_64 5 (ga_push (.int 2) 6) := gs_iconst (by decide +kernel : decode mi_64.2.1 5 = .ok (.iconst 2, 1)) (by decide) rfl
theorem s_64_6 {K : gC} : gOk K g_Ms mi_64 6 (ga_cmp (fun x y => decide (x < y)) 12 9) := gs_cmp_lt (by decide +kernel : decode mi_64.2.1 6 = .ok (.if_icmp .lt 6, 3)) (by decide) rfl
theorem s_64_9 {K : gC} : gOk K g_Ms mi_64 9 (ga_push (.int (-2)) 11) := gs_bipush (by decide +kernel : decode mi_64.2.1 9 = .ok (.bipush (-2), 2)) (by decide) rfl
theorem s_64_11 {K : gC} : gOk K g_Ms mi_64 11 (ga_iret) := gs_iret (by decide +kernel : decode mi_64.2.1 11 = .ok (.ireturn, 1)) rfl
theorem s_64_12 {K : gC} : gOk K g_Ms mi_64 12 (ga_aload 0 13) := gs_aload_n (by decide +kernel : decode mi_64.2.1 12 = .ok (.aload_n 0, 1)) rfl rfl
theorem s_64_13 {K : gC} : gOk K g_Ms mi_64 13 (ga_getR 6 4 16) := gs_getR gcls_6 (by decide) (by decide) gw_246 (by decide +kernel : decode mi_64.2.1 13 = .ok (.getfield 33, 3)) rfl
theorem s_64_16 {K : gC} : gOk K g_Ms mi_64 16 (ga_iload 1 17) := gs_iload_n (by decide +kernel : decode mi_64.2.1 16 = .ok (.iload_n 1, 1)) rfl rfl
theorem s_64_17 {K : gC} : gOk K g_Ms mi_64 17 (ga_aald 18) := gs_aald (by decide +kernel : decode mi_64.2.1 17 = .ok (.aaload, 1)) rfl
theorem s_64_18 {K : gC} : gOk K g_Ms mi_64 18 (ga_aload 0 19) := gs_aload_n (by decide +kernel : decode mi_64.2.1 18 = .ok (.aload_n 0, 1)) rfl rfl
theorem s_64_19 {K : gC} : gOk K g_Ms mi_64 19 (ga_getR 6 3 22) := gs_getR gcls_6 (by decide) (by decide) gw_245 (by decide +kernel : decode mi_64.2.1 19 = .ok (.getfield 29, 3)) rfl
theorem s_64_22 {K : gC} : gOk K g_Ms mi_64 22 (ga_callV 2 24 1 25) := gs_callV gcls_2 (gce_X2_copyFrom (by decide) (by decide)) gw_483 gw_484 gw_485 (by decide +kernel : decode mi_64.2.1 22 = .ok (.invokevirtual 140, 3)) rfl
theorem s_64_25 {K : gC} : gOk K g_Ms mi_64 25 (ga_aload 0 26) := gs_aload_n (by decide +kernel : decode mi_64.2.1 25 = .ok (.aload_n 0, 1)) rfl rfl
theorem s_64_26 {K : gC} : gOk K g_Ms mi_64 26 (ga_getR 6 5 29) := gs_getR gcls_6 (by decide) (by decide) gw_247 (by decide +kernel : decode mi_64.2.1 26 = .ok (.getfield 37, 3)) rfl
theorem s_64_29 {K : gC} : gOk K g_Ms mi_64 29 (ga_iload 1 30) := gs_iload_n (by decide +kernel : decode mi_64.2.1 29 = .ok (.iload_n 1, 1)) rfl rfl
theorem s_64_30 {K : gC} : gOk K g_Ms mi_64 30 (ga_push (.int 1) 31) := gs_iconst (by decide +kernel : decode mi_64.2.1 30 = .ok (.iconst 1, 1)) (by decide) rfl
theorem s_64_31 {K : gC} : gOk K g_Ms mi_64 31 (ga_bast 32) := gs_zast (by decide +kernel : decode mi_64.2.1 31 = .ok (.bastore, 1)) rfl
theorem s_64_32 {K : gC} : gOk K g_Ms mi_64 32 (ga_aload 0 33) := gs_aload_n (by decide +kernel : decode mi_64.2.1 32 = .ok (.aload_n 0, 1)) rfl rfl
theorem s_64_33 {K : gC} : gOk K g_Ms mi_64 33 (ga_getR 6 3 36) := gs_getR gcls_6 (by decide) (by decide) gw_245 (by decide +kernel : decode mi_64.2.1 33 = .ok (.getfield 29, 3)) rfl
theorem s_64_36 {K : gC} : gOk K g_Ms mi_64 36 (ga_getI 2 3 39) := gs_getI gcls_2 (by decide) (by decide) gw_152 (by decide +kernel : decode mi_64.2.1 36 = .ok (.getfield 133, 3)) rfl
theorem s_64_39 {K : gC} : gOk K g_Ms mi_64 39 (ga_iret) := gs_iret (by decide +kernel : decode mi_64.2.1 39 = .ok (.ireturn, 1)) rfl
theorem ok_64 {K : gC} : ∀ e ∈ t_64, gOk K g_Ms mi_64 e.1 e.2 := by
  unfold t_64
  simp only [List.forall_mem_cons, List.not_mem_nil, false_implies, implies_true, and_true]
  exact ⟨s_64_0, s_64_1, s_64_4, s_64_5, s_64_6, s_64_9, s_64_11, s_64_12, s_64_13, s_64_16, s_64_17, s_64_18, s_64_19, s_64_22, s_64_25, s_64_26, s_64_29, s_64_30, s_64_31, s_64_32, s_64_33, s_64_36, s_64_39⟩
theorem s_65_0 {K : gC} : gOk K g_Ms mi_65 0 (ga_iload 1 1) := gs_iload_n (by decide +kernel : decode mi_65.2.1 0 = .ok (.iload_n 1, 1)) rfl rfl
theorem s_65_1 {K : gC} : gOk K g_Ms mi_65 1 (ga_if (fun x => decide (x < 0)) 9 4) := gs_if_lt (by decide +kernel : decode mi_65.2.1 1 = .ok (.ifCond .lt 8, 3)) (by decide) rfl
theorem s_65_4 {K : gC} : gOk K g_Ms mi_65 4 (ga_iload 1 5) := gs_iload_n (by decide +kernel : decode mi_65.2.1 4 = .ok (.iload_n 1, 1)) rfl rfl
theorem s_65_5 {K : gC} : gOk K g_Ms mi_65 5 (ga_push (.int 2) 6) := gs_iconst (by decide +kernel : decode mi_65.2.1 5 = .ok (.iconst 2, 1)) (by decide) rfl
theorem s_65_6 {K : gC} : gOk K g_Ms mi_65 6 (ga_cmp (fun x y => decide (x < y)) 12 9) := gs_cmp_lt (by decide +kernel : decode mi_65.2.1 6 = .ok (.if_icmp .lt 6, 3)) (by decide) rfl
theorem s_65_9 {K : gC} : gOk K g_Ms mi_65 9 (ga_push (.int (-2)) 11) := gs_bipush (by decide +kernel : decode mi_65.2.1 9 = .ok (.bipush (-2), 2)) (by decide) rfl
theorem s_65_11 {K : gC} : gOk K g_Ms mi_65 11 (ga_iret) := gs_iret (by decide +kernel : decode mi_65.2.1 11 = .ok (.ireturn, 1)) rfl
theorem s_65_12 {K : gC} : gOk K g_Ms mi_65 12 (ga_aload 0 13) := gs_aload_n (by decide +kernel : decode mi_65.2.1 12 = .ok (.aload_n 0, 1)) rfl rfl
theorem s_65_13 {K : gC} : gOk K g_Ms mi_65 13 (ga_getR 6 5 16) := gs_getR gcls_6 (by decide) (by decide) gw_247 (by decide +kernel : decode mi_65.2.1 13 = .ok (.getfield 37, 3)) rfl
theorem s_65_16 {K : gC} : gOk K g_Ms mi_65 16 (ga_iload 1 17) := gs_iload_n (by decide +kernel : decode mi_65.2.1 16 = .ok (.iload_n 1, 1)) rfl rfl
theorem s_65_17 {K : gC} : gOk K g_Ms mi_65 17 (ga_bald 18) := gs_zald (by decide +kernel : decode mi_65.2.1 17 = .ok (.baload, 1)) rfl
theorem s_65_18 {K : gC} : gOk K g_Ms mi_65 18 (ga_if (fun x => decide (¬ x = 0)) 24 21) := gs_if_ne (by decide +kernel : decode mi_65.2.1 18 = .ok (.ifCond .ne 6, 3)) (by decide) rfl
theorem s_65_21 {K : gC} : gOk K g_Ms mi_65 21 (ga_push (.int (-4)) 23) := gs_bipush (by decide +kernel : decode mi_65.2.1 21 = .ok (.bipush (-4), 2)) (by decide) rfl
theorem s_65_23 {K : gC} : gOk K g_Ms mi_65 23 (ga_iret) := gs_iret (by decide +kernel : decode mi_65.2.1 23 = .ok (.ireturn, 1)) rfl
theorem s_65_24 {K : gC} : gOk K g_Ms mi_65 24 (ga_aload 0 25) := gs_aload_n (by decide +kernel : decode mi_65.2.1 24 = .ok (.aload_n 0, 1)) rfl rfl
theorem s_65_25 {K : gC} : gOk K g_Ms mi_65 25 (ga_getR 6 3 28) := gs_getR gcls_6 (by decide) (by decide) gw_245 (by decide +kernel : decode mi_65.2.1 25 = .ok (.getfield 29, 3)) rfl
theorem s_65_28 {K : gC} : gOk K g_Ms mi_65 28 (ga_aload 0 29) := gs_aload_n (by decide +kernel : decode mi_65.2.1 28 = .ok (.aload_n 0, 1)) rfl rfl
theorem s_65_29 {K : gC} : gOk K g_Ms mi_65 29 (ga_getR 6 4 32) := gs_getR gcls_6 (by decide) (by decide) gw_246 (by decide +kernel : decode mi_65.2.1 29 = .ok (.getfield 33, 3)) rfl
theorem s_65_32 {K : gC} : gOk K g_Ms mi_65 32 (ga_iload 1 33) := gs_iload_n (by decide +kernel : decode mi_65.2.1 32 = .ok (.iload_n 1, 1)) rfl rfl
theorem s_65_33 {K : gC} : gOk K g_Ms mi_65 33 (ga_aald 34) := gs_aald (by decide +kernel : decode mi_65.2.1 33 = .ok (.aaload, 1)) rfl
theorem s_65_34 {K : gC} : gOk K g_Ms mi_65 34 (ga_callV 2 24 1 37) := gs_callV gcls_2 (gce_X2_copyFrom (by decide) (by decide)) gw_483 gw_484 gw_485 (by decide +kernel : decode mi_65.2.1 34 = .ok (.invokevirtual 140, 3)) rfl
theorem s_65_37 {K : gC} : gOk K g_Ms mi_65 37 (ga_aload 0 38) := gs_aload_n (by decide +kernel : decode mi_65.2.1 37 = .ok (.aload_n 0, 1)) rfl rfl
theorem s_65_38 {K : gC} : gOk K g_Ms mi_65 38 (ga_getR 6 3 41) := gs_getR gcls_6 (by decide) (by decide) gw_245 (by decide +kernel : decode mi_65.2.1 38 = .ok (.getfield 29, 3)) rfl
theorem s_65_41 {K : gC} : gOk K g_Ms mi_65 41 (ga_getI 2 3 44) := gs_getI gcls_2 (by decide) (by decide) gw_152 (by decide +kernel : decode mi_65.2.1 41 = .ok (.getfield 133, 3)) rfl
theorem s_65_44 {K : gC} : gOk K g_Ms mi_65 44 (ga_iret) := gs_iret (by decide +kernel : decode mi_65.2.1 44 = .ok (.ireturn, 1)) rfl
theorem ok_65 {K : gC} : ∀ e ∈ t_65, gOk K g_Ms mi_65 e.1 e.2 := by
  unfold t_65
  simp only [List.forall_mem_cons, List.not_mem_nil, false_implies, implies_true, and_true]
  exact ⟨s_65_0, s_65_1, s_65_4, s_65_5, s_65_6, s_65_9, s_65_11, s_65_12, s_65_13, s_65_16, s_65_17, s_65_18, s_65_21, s_65_23, s_65_24, s_65_25, s_65_28, s_65_29, s_65_32, s_65_33, s_65_34, s_65_37, s_65_38, s_65_41, s_65_44⟩
theorem s_66_0 {K : gC} : gOk K g_Ms mi_66 0 (ga_aload 0 1) := gs_aload_n (by decide +kernel : decode mi_66.2.1 0 = .ok (.aload_n 0, 1)) rfl rfl
theorem s_66_1 {K : gC} : gOk K g_Ms mi_66 1 (ga_getR 6 1 4) := gs_getR gcls_6 (by decide) (by decide) gw_243 (by decide +kernel : decode mi_66.2.1 1 = .ok (.getfield 19, 3)) rfl
theorem s_66_4 {K : gC} : gOk K g_Ms mi_66 4 (ga_iload 1 5) := gs_iload_n (by decide +kernel : decode mi_66.2.1 4 = .ok (.iload_n 1, 1)) rfl rfl
theorem s_66_5 {K : gC} : gOk K g_Ms mi_66 5 (ga_callV 0 3 1 8) := gs_callV gcls_0 (gce_X0_has (by decide) (by decide)) gw_416 gw_417 gw_418 (by decide +kernel : decode mi_66.2.1 5 = .ok (.invokevirtual 85, 3)) rfl
theorem s_66_8 {K : gC} : gOk K g_Ms mi_66 8 (ga_if (fun x => decide (x = 0)) 22 11) := gs_if_eq (by decide +kernel : decode mi_66.2.1 8 = .ok (.ifCond .eq 14, 3)) (by decide) rfl
theorem s_66_11 {K : gC} : gOk K g_Ms mi_66 11 (ga_aload 0 12) := gs_aload_n (by decide +kernel : decode mi_66.2.1 11 = .ok (.aload_n 0, 1)) rfl rfl
theorem s_66_12 {K : gC} : gOk K g_Ms mi_66 12 (ga_getR 6 1 15) := gs_getR gcls_6 (by decide) (by decide) gw_243 (by decide +kernel : decode mi_66.2.1 12 = .ok (.getfield 19, 3)) rfl
theorem s_66_15 {K : gC} : gOk K g_Ms mi_66 15 (ga_iload 2 16) := gs_iload_n (by decide +kernel : decode mi_66.2.1 15 = .ok (.iload_n 2, 1)) rfl rfl
theorem s_66_16 {K : gC} : gOk K g_Ms mi_66 16 (ga_callV 0 3 1 19) := gs_callV gcls_0 (gce_X0_has (by decide) (by decide)) gw_416 gw_417 gw_418 (by decide +kernel : decode mi_66.2.1 16 = .ok (.invokevirtual 85, 3)) rfl
theorem s_66_19 {K : gC} : gOk K g_Ms mi_66 19 (ga_if (fun x => decide (¬ x = 0)) 25 22) := gs_if_ne (by decide +kernel : decode mi_66.2.1 19 = .ok (.ifCond .ne 6, 3)) (by decide) rfl
theorem s_66_22 {K : gC} : gOk K g_Ms mi_66 22 (ga_push (.int (-2)) 24) := gs_bipush (by decide +kernel : decode mi_66.2.1 22 = .ok (.bipush (-2), 2)) (by decide) rfl
theorem s_66_24 {K : gC} : gOk K g_Ms mi_66 24 (ga_iret) := gs_iret (by decide +kernel : decode mi_66.2.1 24 = .ok (.ireturn, 1)) rfl
theorem s_66_25 {K : gC} : gOk K g_Ms mi_66 25 (ga_aload 0 26) := gs_aload_n (by decide +kernel : decode mi_66.2.1 25 = .ok (.aload_n 0, 1)) rfl rfl
theorem s_66_26 {K : gC} : gOk K g_Ms mi_66 26 (ga_callV 6 75 0 29) := gs_callV gcls_6 (gce_X6_foretold (by decide) (by decide)) gw_495 gw_497 gw_11 (by decide +kernel : decode mi_66.2.1 26 = .ok (.invokevirtual 143, 3)) rfl
theorem s_66_29 {K : gC} : gOk K g_Ms mi_66 29 (ga_iload 1 30) := gs_iload_n (by decide +kernel : decode mi_66.2.1 29 = .ok (.iload_n 1, 1)) rfl rfl
theorem s_66_30 {K : gC} : gOk K g_Ms mi_66 30 (ga_iload 2 31) := gs_iload_n (by decide +kernel : decode mi_66.2.1 30 = .ok (.iload_n 2, 1)) rfl rfl
theorem s_66_31 {K : gC} : gOk K g_Ms mi_66 31 (ga_callV 1 10 2 34) := gs_callV gcls_1 (gce_X1_minutesTo (by decide) (by decide)) gw_504 gw_505 gw_506 (by decide +kernel : decode mi_66.2.1 31 = .ok (.invokevirtual 147, 3)) rfl
theorem s_66_34 {K : gC} : gOk K g_Ms mi_66 34 (ga_iret) := gs_iret (by decide +kernel : decode mi_66.2.1 34 = .ok (.ireturn, 1)) rfl
theorem ok_66 {K : gC} : ∀ e ∈ t_66, gOk K g_Ms mi_66 e.1 e.2 := by
  unfold t_66
  simp only [List.forall_mem_cons, List.not_mem_nil, false_implies, implies_true, and_true]
  exact ⟨s_66_0, s_66_1, s_66_4, s_66_5, s_66_8, s_66_11, s_66_12, s_66_15, s_66_16, s_66_19, s_66_22, s_66_24, s_66_25, s_66_26, s_66_29, s_66_30, s_66_31, s_66_34⟩
theorem s_67_0 {K : gC} : gOk K g_Ms mi_67 0 (ga_aload 0 1) := gs_aload_n (by decide +kernel : decode mi_67.2.1 0 = .ok (.aload_n 0, 1)) rfl rfl
theorem s_67_1 {K : gC} : gOk K g_Ms mi_67 1 (ga_getR 6 1 4) := gs_getR gcls_6 (by decide) (by decide) gw_243 (by decide +kernel : decode mi_67.2.1 1 = .ok (.getfield 19, 3)) rfl
theorem s_67_4 {K : gC} : gOk K g_Ms mi_67 4 (ga_iload 1 5) := gs_iload_n (by decide +kernel : decode mi_67.2.1 4 = .ok (.iload_n 1, 1)) rfl rfl
theorem s_67_5 {K : gC} : gOk K g_Ms mi_67 5 (ga_callV 0 3 1 8) := gs_callV gcls_0 (gce_X0_has (by decide) (by decide)) gw_416 gw_417 gw_418 (by decide +kernel : decode mi_67.2.1 5 = .ok (.invokevirtual 85, 3)) rfl
theorem s_67_8 {K : gC} : gOk K g_Ms mi_67 8 (ga_if (fun x => decide (x = 0)) 22 11) := gs_if_eq (by decide +kernel : decode mi_67.2.1 8 = .ok (.ifCond .eq 14, 3)) (by decide) rfl
theorem s_67_11 {K : gC} : gOk K g_Ms mi_67 11 (ga_aload 0 12) := gs_aload_n (by decide +kernel : decode mi_67.2.1 11 = .ok (.aload_n 0, 1)) rfl rfl
theorem s_67_12 {K : gC} : gOk K g_Ms mi_67 12 (ga_callV 6 75 0 15) := gs_callV gcls_6 (gce_X6_foretold (by decide) (by decide)) gw_495 gw_497 gw_11 (by decide +kernel : decode mi_67.2.1 12 = .ok (.invokevirtual 143, 3)) rfl
theorem s_67_15 {K : gC} : gOk K g_Ms mi_67 15 (ga_iload 1 16) := gs_iload_n (by decide +kernel : decode mi_67.2.1 15 = .ok (.iload_n 1, 1)) rfl rfl
theorem s_67_16 {K : gC} : gOk K g_Ms mi_67 16 (ga_callV 1 12 1 19) := gs_callV gcls_1 (gce_X1_strikers (by decide) (by decide)) gw_522 gw_523 gw_524 (by decide +kernel : decode mi_67.2.1 16 = .ok (.invokevirtual 150, 3)) rfl
theorem s_67_19 {K : gC} : gOk K g_Ms mi_67 19 (ga_goto 24) := gs_goto (by decide +kernel : decode mi_67.2.1 19 = .ok (.goto 5, 3)) (by decide)
theorem s_67_22 {K : gC} : gOk K g_Ms mi_67 22 (ga_push (.int (-2)) 24) := gs_bipush (by decide +kernel : decode mi_67.2.1 22 = .ok (.bipush (-2), 2)) (by decide) rfl
theorem s_67_24 {K : gC} : gOk K g_Ms mi_67 24 (ga_iret) := gs_iret (by decide +kernel : decode mi_67.2.1 24 = .ok (.ireturn, 1)) rfl
theorem ok_67 {K : gC} : ∀ e ∈ t_67, gOk K g_Ms mi_67 e.1 e.2 := by
  unfold t_67
  simp only [List.forall_mem_cons, List.not_mem_nil, false_implies, implies_true, and_true]
  exact ⟨s_67_0, s_67_1, s_67_4, s_67_5, s_67_8, s_67_11, s_67_12, s_67_15, s_67_16, s_67_19, s_67_22, s_67_24⟩
theorem s_68_0 {K : gC} : gOk K g_Ms mi_68 0 (ga_aload 0 1) := gs_aload_n (by decide +kernel : decode mi_68.2.1 0 = .ok (.aload_n 0, 1)) rfl rfl
theorem s_68_1 {K : gC} : gOk K g_Ms mi_68 1 (ga_getR 6 1 4) := gs_getR gcls_6 (by decide) (by decide) gw_243 (by decide +kernel : decode mi_68.2.1 1 = .ok (.getfield 19, 3)) rfl
theorem s_68_4 {K : gC} : gOk K g_Ms mi_68 4 (ga_iload 1 5) := gs_iload_n (by decide +kernel : decode mi_68.2.1 4 = .ok (.iload_n 1, 1)) rfl rfl
theorem s_68_5 {K : gC} : gOk K g_Ms mi_68 5 (ga_callV 0 3 1 8) := gs_callV gcls_0 (gce_X0_has (by decide) (by decide)) gw_416 gw_417 gw_418 (by decide +kernel : decode mi_68.2.1 5 = .ok (.invokevirtual 85, 3)) rfl
theorem s_68_8 {K : gC} : gOk K g_Ms mi_68 8 (ga_if (fun x => decide (x = 0)) 22 11) := gs_if_eq (by decide +kernel : decode mi_68.2.1 8 = .ok (.ifCond .eq 14, 3)) (by decide) rfl
theorem s_68_11 {K : gC} : gOk K g_Ms mi_68 11 (ga_aload 0 12) := gs_aload_n (by decide +kernel : decode mi_68.2.1 11 = .ok (.aload_n 0, 1)) rfl rfl
theorem s_68_12 {K : gC} : gOk K g_Ms mi_68 12 (ga_callV 6 75 0 15) := gs_callV gcls_6 (gce_X6_foretold (by decide) (by decide)) gw_495 gw_497 gw_11 (by decide +kernel : decode mi_68.2.1 12 = .ok (.invokevirtual 143, 3)) rfl
theorem s_68_15 {K : gC} : gOk K g_Ms mi_68 15 (ga_iload 1 16) := gs_iload_n (by decide +kernel : decode mi_68.2.1 15 = .ok (.iload_n 1, 1)) rfl rfl
theorem s_68_16 {K : gC} : gOk K g_Ms mi_68 16 (ga_callV 1 13 1 19) := gs_callV gcls_1 (gce_X1_lastMinute (by decide) (by decide)) gw_531 gw_532 gw_533 (by decide +kernel : decode mi_68.2.1 16 = .ok (.invokevirtual 153, 3)) rfl
theorem s_68_19 {K : gC} : gOk K g_Ms mi_68 19 (ga_goto 24) := gs_goto (by decide +kernel : decode mi_68.2.1 19 = .ok (.goto 5, 3)) (by decide)
theorem s_68_22 {K : gC} : gOk K g_Ms mi_68 22 (ga_push (.int (-2)) 24) := gs_bipush (by decide +kernel : decode mi_68.2.1 22 = .ok (.bipush (-2), 2)) (by decide) rfl
theorem s_68_24 {K : gC} : gOk K g_Ms mi_68 24 (ga_iret) := gs_iret (by decide +kernel : decode mi_68.2.1 24 = .ok (.ireturn, 1)) rfl
theorem ok_68 {K : gC} : ∀ e ∈ t_68, gOk K g_Ms mi_68 e.1 e.2 := by
  unfold t_68
  simp only [List.forall_mem_cons, List.not_mem_nil, false_implies, implies_true, and_true]
  exact ⟨s_68_0, s_68_1, s_68_4, s_68_5, s_68_8, s_68_11, s_68_12, s_68_15, s_68_16, s_68_19, s_68_22, s_68_24⟩
theorem s_69_0 {K : gC} : gOk K g_Ms mi_69 0 (ga_aload 0 1) := gs_aload_n (by decide +kernel : decode mi_69.2.1 0 = .ok (.aload_n 0, 1)) rfl rfl
theorem s_69_1 {K : gC} : gOk K g_Ms mi_69 1 (ga_getR 6 1 4) := gs_getR gcls_6 (by decide) (by decide) gw_243 (by decide +kernel : decode mi_69.2.1 1 = .ok (.getfield 19, 3)) rfl
theorem s_69_4 {K : gC} : gOk K g_Ms mi_69 4 (ga_iload 1 5) := gs_iload_n (by decide +kernel : decode mi_69.2.1 4 = .ok (.iload_n 1, 1)) rfl rfl
theorem s_69_5 {K : gC} : gOk K g_Ms mi_69 5 (ga_callV 0 3 1 8) := gs_callV gcls_0 (gce_X0_has (by decide) (by decide)) gw_416 gw_417 gw_418 (by decide +kernel : decode mi_69.2.1 5 = .ok (.invokevirtual 85, 3)) rfl
theorem s_69_8 {K : gC} : gOk K g_Ms mi_69 8 (ga_if (fun x => decide (x = 0)) 22 11) := gs_if_eq (by decide +kernel : decode mi_69.2.1 8 = .ok (.ifCond .eq 14, 3)) (by decide) rfl
theorem s_69_11 {K : gC} : gOk K g_Ms mi_69 11 (ga_aload 0 12) := gs_aload_n (by decide +kernel : decode mi_69.2.1 11 = .ok (.aload_n 0, 1)) rfl rfl
theorem s_69_12 {K : gC} : gOk K g_Ms mi_69 12 (ga_callV 6 75 0 15) := gs_callV gcls_6 (gce_X6_foretold (by decide) (by decide)) gw_495 gw_497 gw_11 (by decide +kernel : decode mi_69.2.1 12 = .ok (.invokevirtual 143, 3)) rfl
theorem s_69_15 {K : gC} : gOk K g_Ms mi_69 15 (ga_iload 1 16) := gs_iload_n (by decide +kernel : decode mi_69.2.1 15 = .ok (.iload_n 1, 1)) rfl rfl
theorem s_69_16 {K : gC} : gOk K g_Ms mi_69 16 (ga_callV 1 11 1 19) := gs_callV gcls_1 (gce_X1_roundMinutes (by decide) (by decide)) gw_542 gw_515 gw_516 (by decide +kernel : decode mi_69.2.1 16 = .ok (.invokevirtual 156, 3)) rfl
theorem s_69_19 {K : gC} : gOk K g_Ms mi_69 19 (ga_goto 24) := gs_goto (by decide +kernel : decode mi_69.2.1 19 = .ok (.goto 5, 3)) (by decide)
theorem s_69_22 {K : gC} : gOk K g_Ms mi_69 22 (ga_push (.int (-2)) 24) := gs_bipush (by decide +kernel : decode mi_69.2.1 22 = .ok (.bipush (-2), 2)) (by decide) rfl
theorem s_69_24 {K : gC} : gOk K g_Ms mi_69 24 (ga_iret) := gs_iret (by decide +kernel : decode mi_69.2.1 24 = .ok (.ireturn, 1)) rfl
theorem ok_69 {K : gC} : ∀ e ∈ t_69, gOk K g_Ms mi_69 e.1 e.2 := by
  unfold t_69
  simp only [List.forall_mem_cons, List.not_mem_nil, false_implies, implies_true, and_true]
  exact ⟨s_69_0, s_69_1, s_69_4, s_69_5, s_69_8, s_69_11, s_69_12, s_69_15, s_69_16, s_69_19, s_69_22, s_69_24⟩
theorem s_70_0 {K : gC} : gOk K g_Ms mi_70 0 (ga_aload 0 1) := gs_aload_n (by decide +kernel : decode mi_70.2.1 0 = .ok (.aload_n 0, 1)) rfl rfl
theorem s_70_1 {K : gC} : gOk K g_Ms mi_70 1 (ga_getR 6 1 4) := gs_getR gcls_6 (by decide) (by decide) gw_243 (by decide +kernel : decode mi_70.2.1 1 = .ok (.getfield 19, 3)) rfl
theorem s_70_4 {K : gC} : gOk K g_Ms mi_70 4 (ga_iload 1 5) := gs_iload_n (by decide +kernel : decode mi_70.2.1 4 = .ok (.iload_n 1, 1)) rfl rfl
theorem s_70_5 {K : gC} : gOk K g_Ms mi_70 5 (ga_callV 0 3 1 8) := gs_callV gcls_0 (gce_X0_has (by decide) (by decide)) gw_416 gw_417 gw_418 (by decide +kernel : decode mi_70.2.1 5 = .ok (.invokevirtual 85, 3)) rfl
theorem s_70_8 {K : gC} : gOk K g_Ms mi_70 8 (ga_if (fun x => decide (x = 0)) 22 11) := gs_if_eq (by decide +kernel : decode mi_70.2.1 8 = .ok (.ifCond .eq 14, 3)) (by decide) rfl
theorem s_70_11 {K : gC} : gOk K g_Ms mi_70 11 (ga_aload 0 12) := gs_aload_n (by decide +kernel : decode mi_70.2.1 11 = .ok (.aload_n 0, 1)) rfl rfl
theorem s_70_12 {K : gC} : gOk K g_Ms mi_70 12 (ga_getR 6 1 15) := gs_getR gcls_6 (by decide) (by decide) gw_243 (by decide +kernel : decode mi_70.2.1 12 = .ok (.getfield 19, 3)) rfl
theorem s_70_15 {K : gC} : gOk K g_Ms mi_70 15 (ga_iload 2 16) := gs_iload_n (by decide +kernel : decode mi_70.2.1 15 = .ok (.iload_n 2, 1)) rfl rfl
theorem s_70_16 {K : gC} : gOk K g_Ms mi_70 16 (ga_callV 0 3 1 19) := gs_callV gcls_0 (gce_X0_has (by decide) (by decide)) gw_416 gw_417 gw_418 (by decide +kernel : decode mi_70.2.1 16 = .ok (.invokevirtual 85, 3)) rfl
theorem s_70_19 {K : gC} : gOk K g_Ms mi_70 19 (ga_if (fun x => decide (¬ x = 0)) 25 22) := gs_if_ne (by decide +kernel : decode mi_70.2.1 19 = .ok (.ifCond .ne 6, 3)) (by decide) rfl
theorem s_70_22 {K : gC} : gOk K g_Ms mi_70 22 (ga_push (.int (-2)) 24) := gs_bipush (by decide +kernel : decode mi_70.2.1 22 = .ok (.bipush (-2), 2)) (by decide) rfl
theorem s_70_24 {K : gC} : gOk K g_Ms mi_70 24 (ga_iret) := gs_iret (by decide +kernel : decode mi_70.2.1 24 = .ok (.ireturn, 1)) rfl
theorem s_70_25 {K : gC} : gOk K g_Ms mi_70 25 (ga_iload 3 26) := gs_iload_n (by decide +kernel : decode mi_70.2.1 25 = .ok (.iload_n 3, 1)) rfl rfl
theorem s_70_26 {K : gC} : gOk K g_Ms mi_70 26 (ga_push (.int 1) 27) := gs_iconst (by decide +kernel : decode mi_70.2.1 26 = .ok (.iconst 1, 1)) (by decide) rfl
theorem s_70_27 {K : gC} : gOk K g_Ms mi_70 27 (ga_cmp (fun x y => decide (x < y)) 36 30) := gs_cmp_lt (by decide +kernel : decode mi_70.2.1 27 = .ok (.if_icmp .lt 9, 3)) (by decide) rfl
theorem s_70_30 {K : gC} : gOk K g_Ms mi_70 30 (ga_iload 3 31) := gs_iload_n (by decide +kernel : decode mi_70.2.1 30 = .ok (.iload_n 3, 1)) rfl rfl
theorem s_70_31 {K : gC} : gOk K g_Ms mi_70 31 (ga_push (.int 64) 33) := gs_bipush (by decide +kernel : decode mi_70.2.1 31 = .ok (.bipush 64, 2)) (by decide) rfl
theorem s_70_33 {K : gC} : gOk K g_Ms mi_70 33 (ga_cmp (fun x y => decide (x ≤ y)) 39 36) := gs_cmp_le (by decide +kernel : decode mi_70.2.1 33 = .ok (.if_icmp .le 6, 3)) (by decide) rfl
theorem s_70_36 {K : gC} : gOk K g_Ms mi_70 36 (ga_push (.int (-3)) 38) := gs_bipush (by decide +kernel : decode mi_70.2.1 36 = .ok (.bipush (-3), 2)) (by decide) rfl
theorem s_70_38 {K : gC} : gOk K g_Ms mi_70 38 (ga_iret) := gs_iret (by decide +kernel : decode mi_70.2.1 38 = .ok (.ireturn, 1)) rfl
theorem s_70_39 {K : gC} : gOk K g_Ms mi_70 39 (ga_aload 0 40) := gs_aload_n (by decide +kernel : decode mi_70.2.1 39 = .ok (.aload_n 0, 1)) rfl rfl
theorem s_70_40 {K : gC} : gOk K g_Ms mi_70 40 (ga_callV 6 75 0 43) := gs_callV gcls_6 (gce_X6_foretold (by decide) (by decide)) gw_495 gw_497 gw_11 (by decide +kernel : decode mi_70.2.1 40 = .ok (.invokevirtual 143, 3)) rfl
theorem s_70_43 {K : gC} : gOk K g_Ms mi_70 43 (ga_iload 1 44) := gs_iload_n (by decide +kernel : decode mi_70.2.1 43 = .ok (.iload_n 1, 1)) rfl rfl
theorem s_70_44 {K : gC} : gOk K g_Ms mi_70 44 (ga_iload 2 45) := gs_iload_n (by decide +kernel : decode mi_70.2.1 44 = .ok (.iload_n 2, 1)) rfl rfl
theorem s_70_45 {K : gC} : gOk K g_Ms mi_70 45 (ga_iload 3 46) := gs_iload_n (by decide +kernel : decode mi_70.2.1 45 = .ok (.iload_n 3, 1)) rfl rfl
theorem s_70_46 {K : gC} : gOk K g_Ms mi_70 46 (ga_callV 1 14 3 49) := gs_callV gcls_1 (gce_X1_strokes (by decide) (by decide)) gw_547 gw_548 gw_549 (by decide +kernel : decode mi_70.2.1 46 = .ok (.invokevirtual 159, 3)) rfl
theorem s_70_49 {K : gC} : gOk K g_Ms mi_70 49 (ga_iret) := gs_iret (by decide +kernel : decode mi_70.2.1 49 = .ok (.ireturn, 1)) rfl
theorem ok_70 {K : gC} : ∀ e ∈ t_70, gOk K g_Ms mi_70 e.1 e.2 := by
  unfold t_70
  simp only [List.forall_mem_cons, List.not_mem_nil, false_implies, implies_true, and_true]
  exact ⟨s_70_0, s_70_1, s_70_4, s_70_5, s_70_8, s_70_11, s_70_12, s_70_15, s_70_16, s_70_19, s_70_22, s_70_24, s_70_25, s_70_26, s_70_27, s_70_30, s_70_31, s_70_33, s_70_36, s_70_38, s_70_39, s_70_40, s_70_43, s_70_44, s_70_45, s_70_46, s_70_49⟩
theorem s_71_0 {K : gC} : gOk K g_Ms mi_71 0 (ga_aload 0 1) := gs_aload_n (by decide +kernel : decode mi_71.2.1 0 = .ok (.aload_n 0, 1)) rfl rfl
theorem s_71_1 {K : gC} : gOk K g_Ms mi_71 1 (ga_getR 6 1 4) := gs_getR gcls_6 (by decide) (by decide) gw_243 (by decide +kernel : decode mi_71.2.1 1 = .ok (.getfield 19, 3)) rfl
theorem s_71_4 {K : gC} : gOk K g_Ms mi_71 4 (ga_iload 1 5) := gs_iload_n (by decide +kernel : decode mi_71.2.1 4 = .ok (.iload_n 1, 1)) rfl rfl
theorem s_71_5 {K : gC} : gOk K g_Ms mi_71 5 (ga_callV 0 3 1 8) := gs_callV gcls_0 (gce_X0_has (by decide) (by decide)) gw_416 gw_417 gw_418 (by decide +kernel : decode mi_71.2.1 5 = .ok (.invokevirtual 85, 3)) rfl
theorem s_71_8 {K : gC} : gOk K g_Ms mi_71 8 (ga_if (fun x => decide (x = 0)) 33 11) := gs_if_eq (by decide +kernel : decode mi_71.2.1 8 = .ok (.ifCond .eq 25, 3)) (by decide) rfl
theorem s_71_11 {K : gC} : gOk K g_Ms mi_71 11 (ga_aload 0 12) := gs_aload_n (by decide +kernel : decode mi_71.2.1 11 = .ok (.aload_n 0, 1)) rfl rfl
theorem s_71_12 {K : gC} : gOk K g_Ms mi_71 12 (ga_getR 6 1 15) := gs_getR gcls_6 (by decide) (by decide) gw_243 (by decide +kernel : decode mi_71.2.1 12 = .ok (.getfield 19, 3)) rfl
theorem s_71_15 {K : gC} : gOk K g_Ms mi_71 15 (ga_iload 2 16) := gs_iload_n (by decide +kernel : decode mi_71.2.1 15 = .ok (.iload_n 2, 1)) rfl rfl
theorem s_71_16 {K : gC} : gOk K g_Ms mi_71 16 (ga_callV 0 3 1 19) := gs_callV gcls_0 (gce_X0_has (by decide) (by decide)) gw_416 gw_417 gw_418 (by decide +kernel : decode mi_71.2.1 16 = .ok (.invokevirtual 85, 3)) rfl
theorem s_71_19 {K : gC} : gOk K g_Ms mi_71 19 (ga_if (fun x => decide (x = 0)) 33 22) := gs_if_eq (by decide +kernel : decode mi_71.2.1 19 = .ok (.ifCond .eq 14, 3)) (by decide) rfl
theorem s_71_22 {K : gC} : gOk K g_Ms mi_71 22 (ga_aload 0 23) := gs_aload_n (by decide +kernel : decode mi_71.2.1 22 = .ok (.aload_n 0, 1)) rfl rfl
theorem s_71_23 {K : gC} : gOk K g_Ms mi_71 23 (ga_getR 6 1 26) := gs_getR gcls_6 (by decide) (by decide) gw_243 (by decide +kernel : decode mi_71.2.1 23 = .ok (.getfield 19, 3)) rfl
theorem s_71_26 {K : gC} : gOk K g_Ms mi_71 26 (ga_iload 3 27) := gs_iload_n (by decide +kernel : decode mi_71.2.1 26 = .ok (.iload_n 3, 1)) rfl rfl
theorem s_71_27 {K : gC} : gOk K g_Ms mi_71 27 (ga_callV 0 3 1 30) := gs_callV gcls_0 (gce_X0_has (by decide) (by decide)) gw_416 gw_417 gw_418 (by decide +kernel : decode mi_71.2.1 27 = .ok (.invokevirtual 85, 3)) rfl
theorem s_71_30 {K : gC} : gOk K g_Ms mi_71 30 (ga_if (fun x => decide (¬ x = 0)) 36 33) := gs_if_ne (by decide +kernel : decode mi_71.2.1 30 = .ok (.ifCond .ne 6, 3)) (by decide) rfl
theorem s_71_33 {K : gC} : gOk K g_Ms mi_71 33 (ga_push (.int (-2)) 35) := gs_bipush (by decide +kernel : decode mi_71.2.1 33 = .ok (.bipush (-2), 2)) (by decide) rfl
theorem s_71_35 {K : gC} : gOk K g_Ms mi_71 35 (ga_iret) := gs_iret (by decide +kernel : decode mi_71.2.1 35 = .ok (.ireturn, 1)) rfl
theorem s_71_36 {K : gC} : gOk K g_Ms mi_71 36 (ga_aload 0 37) := gs_aload_n (by decide +kernel : decode mi_71.2.1 36 = .ok (.aload_n 0, 1)) rfl rfl
theorem s_71_37 {K : gC} : gOk K g_Ms mi_71 37 (ga_callV 6 75 0 40) := gs_callV gcls_6 (gce_X6_foretold (by decide) (by decide)) gw_495 gw_497 gw_11 (by decide +kernel : decode mi_71.2.1 37 = .ok (.invokevirtual 143, 3)) rfl
theorem s_71_40 {K : gC} : gOk K g_Ms mi_71 40 (ga_iload 1 41) := gs_iload_n (by decide +kernel : decode mi_71.2.1 40 = .ok (.iload_n 1, 1)) rfl rfl
theorem s_71_41 {K : gC} : gOk K g_Ms mi_71 41 (ga_iload 2 42) := gs_iload_n (by decide +kernel : decode mi_71.2.1 41 = .ok (.iload_n 2, 1)) rfl rfl
theorem s_71_42 {K : gC} : gOk K g_Ms mi_71 42 (ga_iload 3 43) := gs_iload_n (by decide +kernel : decode mi_71.2.1 42 = .ok (.iload_n 3, 1)) rfl rfl
theorem s_71_43 {K : gC} : gOk K g_Ms mi_71 43 (ga_callV 1 16 3 46) := gs_callV gcls_1 (gce_X1_minutesBetween (by decide) (by decide)) gw_558 gw_559 gw_560 (by decide +kernel : decode mi_71.2.1 43 = .ok (.invokevirtual 163, 3)) rfl
theorem s_71_46 {K : gC} : gOk K g_Ms mi_71 46 (ga_iret) := gs_iret (by decide +kernel : decode mi_71.2.1 46 = .ok (.ireturn, 1)) rfl
theorem ok_71 {K : gC} : ∀ e ∈ t_71, gOk K g_Ms mi_71 e.1 e.2 := by
  unfold t_71
  simp only [List.forall_mem_cons, List.not_mem_nil, false_implies, implies_true, and_true]
  exact ⟨s_71_0, s_71_1, s_71_4, s_71_5, s_71_8, s_71_11, s_71_12, s_71_15, s_71_16, s_71_19, s_71_22, s_71_23, s_71_26, s_71_27, s_71_30, s_71_33, s_71_35, s_71_36, s_71_37, s_71_40, s_71_41, s_71_42, s_71_43, s_71_46⟩
theorem s_72_0 {K : gC} : gOk K g_Ms mi_72 0 (ga_aload 0 1) := gs_aload_n (by decide +kernel : decode mi_72.2.1 0 = .ok (.aload_n 0, 1)) rfl rfl
theorem s_72_1 {K : gC} : gOk K g_Ms mi_72 1 (ga_getR 6 1 4) := gs_getR gcls_6 (by decide) (by decide) gw_243 (by decide +kernel : decode mi_72.2.1 1 = .ok (.getfield 19, 3)) rfl
theorem s_72_4 {K : gC} : gOk K g_Ms mi_72 4 (ga_iload 1 5) := gs_iload_n (by decide +kernel : decode mi_72.2.1 4 = .ok (.iload_n 1, 1)) rfl rfl
theorem s_72_5 {K : gC} : gOk K g_Ms mi_72 5 (ga_callV 0 3 1 8) := gs_callV gcls_0 (gce_X0_has (by decide) (by decide)) gw_416 gw_417 gw_418 (by decide +kernel : decode mi_72.2.1 5 = .ok (.invokevirtual 85, 3)) rfl
theorem s_72_8 {K : gC} : gOk K g_Ms mi_72 8 (ga_if (fun x => decide (x = 0)) 33 11) := gs_if_eq (by decide +kernel : decode mi_72.2.1 8 = .ok (.ifCond .eq 25, 3)) (by decide) rfl
theorem s_72_11 {K : gC} : gOk K g_Ms mi_72 11 (ga_aload 0 12) := gs_aload_n (by decide +kernel : decode mi_72.2.1 11 = .ok (.aload_n 0, 1)) rfl rfl
theorem s_72_12 {K : gC} : gOk K g_Ms mi_72 12 (ga_getR 6 1 15) := gs_getR gcls_6 (by decide) (by decide) gw_243 (by decide +kernel : decode mi_72.2.1 12 = .ok (.getfield 19, 3)) rfl
theorem s_72_15 {K : gC} : gOk K g_Ms mi_72 15 (ga_iload 2 16) := gs_iload_n (by decide +kernel : decode mi_72.2.1 15 = .ok (.iload_n 2, 1)) rfl rfl
theorem s_72_16 {K : gC} : gOk K g_Ms mi_72 16 (ga_callV 0 3 1 19) := gs_callV gcls_0 (gce_X0_has (by decide) (by decide)) gw_416 gw_417 gw_418 (by decide +kernel : decode mi_72.2.1 16 = .ok (.invokevirtual 85, 3)) rfl
theorem s_72_19 {K : gC} : gOk K g_Ms mi_72 19 (ga_if (fun x => decide (x = 0)) 33 22) := gs_if_eq (by decide +kernel : decode mi_72.2.1 19 = .ok (.ifCond .eq 14, 3)) (by decide) rfl
theorem s_72_22 {K : gC} : gOk K g_Ms mi_72 22 (ga_aload 0 23) := gs_aload_n (by decide +kernel : decode mi_72.2.1 22 = .ok (.aload_n 0, 1)) rfl rfl
theorem s_72_23 {K : gC} : gOk K g_Ms mi_72 23 (ga_getR 6 1 26) := gs_getR gcls_6 (by decide) (by decide) gw_243 (by decide +kernel : decode mi_72.2.1 23 = .ok (.getfield 19, 3)) rfl
theorem s_72_26 {K : gC} : gOk K g_Ms mi_72 26 (ga_iload 3 27) := gs_iload_n (by decide +kernel : decode mi_72.2.1 26 = .ok (.iload_n 3, 1)) rfl rfl
theorem s_72_27 {K : gC} : gOk K g_Ms mi_72 27 (ga_callV 0 3 1 30) := gs_callV gcls_0 (gce_X0_has (by decide) (by decide)) gw_416 gw_417 gw_418 (by decide +kernel : decode mi_72.2.1 27 = .ok (.invokevirtual 85, 3)) rfl
theorem s_72_30 {K : gC} : gOk K g_Ms mi_72 30 (ga_if (fun x => decide (¬ x = 0)) 36 33) := gs_if_ne (by decide +kernel : decode mi_72.2.1 30 = .ok (.ifCond .ne 6, 3)) (by decide) rfl
theorem s_72_33 {K : gC} : gOk K g_Ms mi_72 33 (ga_push (.int (-2)) 35) := gs_bipush (by decide +kernel : decode mi_72.2.1 33 = .ok (.bipush (-2), 2)) (by decide) rfl
theorem s_72_35 {K : gC} : gOk K g_Ms mi_72 35 (ga_iret) := gs_iret (by decide +kernel : decode mi_72.2.1 35 = .ok (.ireturn, 1)) rfl
theorem s_72_36 {K : gC} : gOk K g_Ms mi_72 36 (ga_iload 4 38) := gs_iload (by decide +kernel : decode mi_72.2.1 36 = .ok (.iload 4, 2)) rfl
theorem s_72_38 {K : gC} : gOk K g_Ms mi_72 38 (ga_if (fun x => decide (x < 0)) 47 41) := gs_if_lt (by decide +kernel : decode mi_72.2.1 38 = .ok (.ifCond .lt 9, 3)) (by decide) rfl
theorem s_72_41 {K : gC} : gOk K g_Ms mi_72 41 (ga_iload 4 43) := gs_iload (by decide +kernel : decode mi_72.2.1 41 = .ok (.iload 4, 2)) rfl
theorem s_72_43 {K : gC} : gOk K g_Ms mi_72 43 (ga_push (.int 2) 44) := gs_iconst (by decide +kernel : decode mi_72.2.1 43 = .ok (.iconst 2, 1)) (by decide) rfl
theorem s_72_44 {K : gC} : gOk K g_Ms mi_72 44 (ga_cmp (fun x y => decide (x ≤ y)) 50 47) := gs_cmp_le (by decide +kernel : decode mi_72.2.1 44 = .ok (.if_icmp .le 6, 3)) (by decide) rfl
theorem s_72_47 {K : gC} : gOk K g_Ms mi_72 47 (ga_push (.int (-3)) 49) := gs_bipush (by decide +kernel : decode mi_72.2.1 47 = .ok (.bipush (-3), 2)) (by decide) rfl
theorem s_72_49 {K : gC} : gOk K g_Ms mi_72 49 (ga_iret) := gs_iret (by decide +kernel : decode mi_72.2.1 49 = .ok (.ireturn, 1)) rfl
theorem s_72_50 {K : gC} : gOk K g_Ms mi_72 50 (ga_aload 0 51) := gs_aload_n (by decide +kernel : decode mi_72.2.1 50 = .ok (.aload_n 0, 1)) rfl rfl
theorem s_72_51 {K : gC} : gOk K g_Ms mi_72 51 (ga_callV 6 75 0 54) := gs_callV gcls_6 (gce_X6_foretold (by decide) (by decide)) gw_495 gw_497 gw_11 (by decide +kernel : decode mi_72.2.1 51 = .ok (.invokevirtual 143, 3)) rfl
theorem s_72_54 {K : gC} : gOk K g_Ms mi_72 54 (ga_astore 5 56) := gs_astore (by decide +kernel : decode mi_72.2.1 54 = .ok (.astore 5, 2)) rfl
theorem s_72_56 {K : gC} : gOk K g_Ms mi_72 56 (ga_aload 5 58) := gs_aload (by decide +kernel : decode mi_72.2.1 56 = .ok (.aload 5, 2)) rfl
theorem s_72_58 {K : gC} : gOk K g_Ms mi_72 58 (ga_iload 1 59) := gs_iload_n (by decide +kernel : decode mi_72.2.1 58 = .ok (.iload_n 1, 1)) rfl rfl
theorem s_72_59 {K : gC} : gOk K g_Ms mi_72 59 (ga_iload 2 60) := gs_iload_n (by decide +kernel : decode mi_72.2.1 59 = .ok (.iload_n 2, 1)) rfl rfl
theorem s_72_60 {K : gC} : gOk K g_Ms mi_72 60 (ga_iload 3 61) := gs_iload_n (by decide +kernel : decode mi_72.2.1 60 = .ok (.iload_n 3, 1)) rfl rfl
theorem s_72_61 {K : gC} : gOk K g_Ms mi_72 61 (ga_callV 1 18 3 64) := gs_callV gcls_1 (gce_X1_seekChange (by decide) (by decide)) gw_569 gw_570 gw_571 (by decide +kernel : decode mi_72.2.1 61 = .ok (.invokevirtual 166, 3)) rfl
theorem s_72_64 {K : gC} : gOk K g_Ms mi_72 64 (ga_iload 4 66) := gs_iload (by decide +kernel : decode mi_72.2.1 64 = .ok (.iload 4, 2)) rfl
theorem s_72_66 {K : gC} : gOk K g_Ms mi_72 66 (ga_if (fun x => decide (¬ x = 0)) 77 69) := gs_if_ne (by decide +kernel : decode mi_72.2.1 66 = .ok (.ifCond .ne 11, 3)) (by decide) rfl
theorem s_72_69 {K : gC} : gOk K g_Ms mi_72 69 (ga_aload 5 71) := gs_aload (by decide +kernel : decode mi_72.2.1 69 = .ok (.aload 5, 2)) rfl
theorem s_72_71 {K : gC} : gOk K g_Ms mi_72 71 (ga_getI 1 5 74) := gs_getI gcls_1 (by decide) (by decide) gw_220 (by decide +kernel : decode mi_72.2.1 71 = .ok (.getfield 170, 3)) rfl
theorem s_72_74 {K : gC} : gOk K g_Ms mi_72 74 (ga_goto 96) := gs_goto (by decide +kernel : decode mi_72.2.1 74 = .ok (.goto 22, 3)) (by decide)
theorem s_72_77 {K : gC} : gOk K g_Ms mi_72 77 (ga_iload 4 79) := gs_iload (by decide +kernel : decode mi_72.2.1 77 = .ok (.iload 4, 2)) rfl
theorem s_72_79 {K : gC} : gOk K g_Ms mi_72 79 (ga_push (.int 1) 80) := gs_iconst (by decide +kernel : decode mi_72.2.1 79 = .ok (.iconst 1, 1)) (by decide) rfl
theorem s_72_80 {K : gC} : gOk K g_Ms mi_72 80 (ga_cmp (fun x y => decide (¬ x = y)) 91 83) := gs_cmp_ne (by decide +kernel : decode mi_72.2.1 80 = .ok (.if_icmp .ne 11, 3)) (by decide) rfl
theorem s_72_83 {K : gC} : gOk K g_Ms mi_72 83 (ga_aload 5 85) := gs_aload (by decide +kernel : decode mi_72.2.1 83 = .ok (.aload 5, 2)) rfl
theorem s_72_85 {K : gC} : gOk K g_Ms mi_72 85 (ga_getI 1 6 88) := gs_getI gcls_1 (by decide) (by decide) gw_222 (by decide +kernel : decode mi_72.2.1 85 = .ok (.getfield 173, 3)) rfl
theorem s_72_88 {K : gC} : gOk K g_Ms mi_72 88 (ga_goto 96) := gs_goto (by decide +kernel : decode mi_72.2.1 88 = .ok (.goto 8, 3)) (by decide)
theorem s_72_91 {K : gC} : gOk K g_Ms mi_72 91 (ga_aload 5 93) := gs_aload (by decide +kernel : decode mi_72.2.1 91 = .ok (.aload 5, 2)) rfl
theorem s_72_93 {K : gC} : gOk K g_Ms mi_72 93 (ga_getI 1 7 96) := gs_getI gcls_1 (by decide) (by decide) gw_224 (by decide +kernel : decode mi_72.2.1 93 = .ok (.getfield 176, 3)) rfl
theorem s_72_96 {K : gC} : gOk K g_Ms mi_72 96 (ga_iret) := gs_iret (by decide +kernel : decode mi_72.2.1 96 = .ok (.ireturn, 1)) rfl
theorem ok_72 {K : gC} : ∀ e ∈ t_72, gOk K g_Ms mi_72 e.1 e.2 := by
  unfold t_72
  simp only [List.forall_mem_cons, List.not_mem_nil, false_implies, implies_true, and_true]
  exact ⟨s_72_0, s_72_1, s_72_4, s_72_5, s_72_8, s_72_11, s_72_12, s_72_15, s_72_16, s_72_19, s_72_22, s_72_23, s_72_26, s_72_27, s_72_30, s_72_33, s_72_35, s_72_36, s_72_38, s_72_41, s_72_43, s_72_44, s_72_47, s_72_49, s_72_50, s_72_51, s_72_54, s_72_56, s_72_58, s_72_59, s_72_60, s_72_61, s_72_64, s_72_66, s_72_69, s_72_71, s_72_74, s_72_77, s_72_79, s_72_80, s_72_83, s_72_85, s_72_88, s_72_91, s_72_93, s_72_96⟩
theorem s_73_0 {K : gC} : gOk K g_Ms mi_73 0 (ga_aload 0 1) := gs_aload_n (by decide +kernel : decode mi_73.2.1 0 = .ok (.aload_n 0, 1)) rfl rfl
theorem s_73_1 {K : gC} : gOk K g_Ms mi_73 1 (ga_getR 6 1 4) := gs_getR gcls_6 (by decide) (by decide) gw_243 (by decide +kernel : decode mi_73.2.1 1 = .ok (.getfield 19, 3)) rfl
theorem s_73_4 {K : gC} : gOk K g_Ms mi_73 4 (ga_iload 1 5) := gs_iload_n (by decide +kernel : decode mi_73.2.1 4 = .ok (.iload_n 1, 1)) rfl rfl
theorem s_73_5 {K : gC} : gOk K g_Ms mi_73 5 (ga_callV 0 3 1 8) := gs_callV gcls_0 (gce_X0_has (by decide) (by decide)) gw_416 gw_417 gw_418 (by decide +kernel : decode mi_73.2.1 5 = .ok (.invokevirtual 85, 3)) rfl
theorem s_73_8 {K : gC} : gOk K g_Ms mi_73 8 (ga_if (fun x => decide (¬ x = 0)) 14 11) := gs_if_ne (by decide +kernel : decode mi_73.2.1 8 = .ok (.ifCond .ne 6, 3)) (by decide) rfl
theorem s_73_11 {K : gC} : gOk K g_Ms mi_73 11 (ga_push (.int (-2)) 13) := gs_bipush (by decide +kernel : decode mi_73.2.1 11 = .ok (.bipush (-2), 2)) (by decide) rfl
theorem s_73_13 {K : gC} : gOk K g_Ms mi_73 13 (ga_iret) := gs_iret (by decide +kernel : decode mi_73.2.1 13 = .ok (.ireturn, 1)) rfl
theorem s_73_14 {K : gC} : gOk K g_Ms mi_73 14 (ga_iload 2 15) := gs_iload_n (by decide +kernel : decode mi_73.2.1 14 = .ok (.iload_n 2, 1)) rfl rfl
theorem s_73_15 {K : gC} : gOk K g_Ms mi_73 15 (ga_if (fun x => decide (x < 0)) 23 18) := gs_if_lt (by decide +kernel : decode mi_73.2.1 15 = .ok (.ifCond .lt 8, 3)) (by decide) rfl
theorem s_73_18 {K : gC} : gOk K g_Ms mi_73 18 (ga_iload 2 19) := gs_iload_n (by decide +kernel : decode mi_73.2.1 18 = .ok (.iload_n 2, 1)) rfl rfl
theorem s_73_19 {K : gC} : gOk K g_Ms mi_73 19 (ga_push (.int 1) 20) := gs_iconst (by decide +kernel : decode mi_73.2.1 19 = .ok (.iconst 1, 1)) (by decide) rfl
theorem s_73_20 {K : gC} : gOk K g_Ms mi_73 20 (ga_cmp (fun x y => decide (x ≤ y)) 26 23) := gs_cmp_le (by decide +kernel : decode mi_73.2.1 20 = .ok (.if_icmp .le 6, 3)) (by decide) rfl
theorem s_73_23 {K : gC} : gOk K g_Ms mi_73 23 (ga_push (.int (-3)) 25) := gs_bipush (by decide +kernel : decode mi_73.2.1 23 = .ok (.bipush (-3), 2)) (by decide) rfl
theorem s_73_25 {K : gC} : gOk K g_Ms mi_73 25 (ga_iret) := gs_iret (by decide +kernel : decode mi_73.2.1 25 = .ok (.ireturn, 1)) rfl
theorem s_73_26 {K : gC} : gOk K g_Ms mi_73 26 (ga_aload 0 27) := gs_aload_n (by decide +kernel : decode mi_73.2.1 26 = .ok (.aload_n 0, 1)) rfl rfl
theorem s_73_27 {K : gC} : gOk K g_Ms mi_73 27 (ga_callV 6 75 0 30) := gs_callV gcls_6 (gce_X6_foretold (by decide) (by decide)) gw_495 gw_497 gw_11 (by decide +kernel : decode mi_73.2.1 27 = .ok (.invokevirtual 143, 3)) rfl
theorem s_73_30 {K : gC} : gOk K g_Ms mi_73 30 (ga_astore 3 31) := gs_astore_n (by decide +kernel : decode mi_73.2.1 30 = .ok (.astore_n 3, 1)) rfl rfl
theorem s_73_31 {K : gC} : gOk K g_Ms mi_73 31 (ga_aload 3 32) := gs_aload_n (by decide +kernel : decode mi_73.2.1 31 = .ok (.aload_n 3, 1)) rfl rfl
theorem s_73_32 {K : gC} : gOk K g_Ms mi_73 32 (ga_aload 0 33) := gs_aload_n (by decide +kernel : decode mi_73.2.1 32 = .ok (.aload_n 0, 1)) rfl rfl
theorem s_73_33 {K : gC} : gOk K g_Ms mi_73 33 (ga_getR 6 1 36) := gs_getR gcls_6 (by decide) (by decide) gw_243 (by decide +kernel : decode mi_73.2.1 33 = .ok (.getfield 19, 3)) rfl
theorem s_73_36 {K : gC} : gOk K g_Ms mi_73 36 (ga_iload 1 37) := gs_iload_n (by decide +kernel : decode mi_73.2.1 36 = .ok (.iload_n 1, 1)) rfl rfl
theorem s_73_37 {K : gC} : gOk K g_Ms mi_73 37 (ga_callV 1 19 2 40) := gs_callV gcls_1 (gce_X1_seekOver (by decide) (by decide)) gw_590 gw_591 gw_592 (by decide +kernel : decode mi_73.2.1 37 = .ok (.invokevirtual 179, 3)) rfl
theorem s_73_40 {K : gC} : gOk K g_Ms mi_73 40 (ga_iload 2 41) := gs_iload_n (by decide +kernel : decode mi_73.2.1 40 = .ok (.iload_n 2, 1)) rfl rfl
theorem s_73_41 {K : gC} : gOk K g_Ms mi_73 41 (ga_if (fun x => decide (¬ x = 0)) 51 44) := gs_if_ne (by decide +kernel : decode mi_73.2.1 41 = .ok (.ifCond .ne 10, 3)) (by decide) rfl
theorem s_73_44 {K : gC} : gOk K g_Ms mi_73 44 (ga_aload 3 45) := gs_aload_n (by decide +kernel : decode mi_73.2.1 44 = .ok (.aload_n 3, 1)) rfl rfl
theorem s_73_45 {K : gC} : gOk K g_Ms mi_73 45 (ga_getI 1 6 48) := gs_getI gcls_1 (by decide) (by decide) gw_222 (by decide +kernel : decode mi_73.2.1 45 = .ok (.getfield 173, 3)) rfl
theorem s_73_48 {K : gC} : gOk K g_Ms mi_73 48 (ga_goto 55) := gs_goto (by decide +kernel : decode mi_73.2.1 48 = .ok (.goto 7, 3)) (by decide)
theorem s_73_51 {K : gC} : gOk K g_Ms mi_73 51 (ga_aload 3 52) := gs_aload_n (by decide +kernel : decode mi_73.2.1 51 = .ok (.aload_n 3, 1)) rfl rfl
theorem s_73_52 {K : gC} : gOk K g_Ms mi_73 52 (ga_getI 1 5 55) := gs_getI gcls_1 (by decide) (by decide) gw_220 (by decide +kernel : decode mi_73.2.1 52 = .ok (.getfield 170, 3)) rfl
theorem s_73_55 {K : gC} : gOk K g_Ms mi_73 55 (ga_iret) := gs_iret (by decide +kernel : decode mi_73.2.1 55 = .ok (.ireturn, 1)) rfl
theorem ok_73 {K : gC} : ∀ e ∈ t_73, gOk K g_Ms mi_73 e.1 e.2 := by
  unfold t_73
  simp only [List.forall_mem_cons, List.not_mem_nil, false_implies, implies_true, and_true]
  exact ⟨s_73_0, s_73_1, s_73_4, s_73_5, s_73_8, s_73_11, s_73_13, s_73_14, s_73_15, s_73_18, s_73_19, s_73_20, s_73_23, s_73_25, s_73_26, s_73_27, s_73_30, s_73_31, s_73_32, s_73_33, s_73_36, s_73_37, s_73_40, s_73_41, s_73_44, s_73_45, s_73_48, s_73_51, s_73_52, s_73_55⟩
theorem s_74_0 {K : gC} : gOk K g_Ms mi_74 0 (ga_aload 0 1) := gs_aload_n (by decide +kernel : decode mi_74.2.1 0 = .ok (.aload_n 0, 1)) rfl rfl
theorem s_74_1 {K : gC} : gOk K g_Ms mi_74 1 (ga_getR 6 1 4) := gs_getR gcls_6 (by decide) (by decide) gw_243 (by decide +kernel : decode mi_74.2.1 1 = .ok (.getfield 19, 3)) rfl
theorem s_74_4 {K : gC} : gOk K g_Ms mi_74 4 (ga_iload 1 5) := gs_iload_n (by decide +kernel : decode mi_74.2.1 4 = .ok (.iload_n 1, 1)) rfl rfl
theorem s_74_5 {K : gC} : gOk K g_Ms mi_74 5 (ga_callV 0 3 1 8) := gs_callV gcls_0 (gce_X0_has (by decide) (by decide)) gw_416 gw_417 gw_418 (by decide +kernel : decode mi_74.2.1 5 = .ok (.invokevirtual 85, 3)) rfl
theorem s_74_8 {K : gC} : gOk K g_Ms mi_74 8 (ga_if (fun x => decide (x = 0)) 22 11) := gs_if_eq (by decide +kernel : decode mi_74.2.1 8 = .ok (.ifCond .eq 14, 3)) (by decide) rfl
theorem s_74_11 {K : gC} : gOk K g_Ms mi_74 11 (ga_aload 0 12) := gs_aload_n (by decide +kernel : decode mi_74.2.1 11 = .ok (.aload_n 0, 1)) rfl rfl
theorem s_74_12 {K : gC} : gOk K g_Ms mi_74 12 (ga_getR 6 1 15) := gs_getR gcls_6 (by decide) (by decide) gw_243 (by decide +kernel : decode mi_74.2.1 12 = .ok (.getfield 19, 3)) rfl
theorem s_74_15 {K : gC} : gOk K g_Ms mi_74 15 (ga_iload 2 16) := gs_iload_n (by decide +kernel : decode mi_74.2.1 15 = .ok (.iload_n 2, 1)) rfl rfl
theorem s_74_16 {K : gC} : gOk K g_Ms mi_74 16 (ga_callV 0 3 1 19) := gs_callV gcls_0 (gce_X0_has (by decide) (by decide)) gw_416 gw_417 gw_418 (by decide +kernel : decode mi_74.2.1 16 = .ok (.invokevirtual 85, 3)) rfl
theorem s_74_19 {K : gC} : gOk K g_Ms mi_74 19 (ga_if (fun x => decide (¬ x = 0)) 25 22) := gs_if_ne (by decide +kernel : decode mi_74.2.1 19 = .ok (.ifCond .ne 6, 3)) (by decide) rfl
theorem s_74_22 {K : gC} : gOk K g_Ms mi_74 22 (ga_push (.int (-2)) 24) := gs_bipush (by decide +kernel : decode mi_74.2.1 22 = .ok (.bipush (-2), 2)) (by decide) rfl
theorem s_74_24 {K : gC} : gOk K g_Ms mi_74 24 (ga_iret) := gs_iret (by decide +kernel : decode mi_74.2.1 24 = .ok (.ireturn, 1)) rfl
theorem s_74_25 {K : gC} : gOk K g_Ms mi_74 25 (ga_iload 3 26) := gs_iload_n (by decide +kernel : decode mi_74.2.1 25 = .ok (.iload_n 3, 1)) rfl rfl
theorem s_74_26 {K : gC} : gOk K g_Ms mi_74 26 (ga_if (fun x => decide (x < 0)) 46 29) := gs_if_lt (by decide +kernel : decode mi_74.2.1 26 = .ok (.ifCond .lt 20, 3)) (by decide) rfl
theorem s_74_29 {K : gC} : gOk K g_Ms mi_74 29 (ga_iload 3 30) := gs_iload_n (by decide +kernel : decode mi_74.2.1 29 = .ok (.iload_n 3, 1)) rfl rfl
theorem s_74_30 {K : gC} : gOk K g_Ms mi_74 30 (ga_push (.int 10) 32) := gs_bipush (by decide +kernel : decode mi_74.2.1 30 = .ok (.bipush 10, 2)) (by decide) rfl
theorem s_74_32 {K : gC} : gOk K g_Ms mi_74 32 (ga_cmp (fun x y => decide (y < x)) 46 35) := gs_cmp_gt (by decide +kernel : decode mi_74.2.1 32 = .ok (.if_icmp .gt 14, 3)) (by decide) rfl
theorem s_74_35 {K : gC} : gOk K g_Ms mi_74 35 (ga_iload 4 37) := gs_iload (by decide +kernel : decode mi_74.2.1 35 = .ok (.iload 4, 2)) rfl
theorem s_74_37 {K : gC} : gOk K g_Ms mi_74 37 (ga_if (fun x => decide (x < 0)) 46 40) := gs_if_lt (by decide +kernel : decode mi_74.2.1 37 = .ok (.ifCond .lt 9, 3)) (by decide) rfl
theorem s_74_40 {K : gC} : gOk K g_Ms mi_74 40 (ga_iload 4 42) := gs_iload (by decide +kernel : decode mi_74.2.1 40 = .ok (.iload 4, 2)) rfl
theorem s_74_42 {K : gC} : gOk K g_Ms mi_74 42 (ga_push (.int 1) 43) := gs_iconst (by decide +kernel : decode mi_74.2.1 42 = .ok (.iconst 1, 1)) (by decide) rfl
theorem s_74_43 {K : gC} : gOk K g_Ms mi_74 43 (ga_cmp (fun x y => decide (x ≤ y)) 49 46) := gs_cmp_le (by decide +kernel : decode mi_74.2.1 43 = .ok (.if_icmp .le 6, 3)) (by decide) rfl
theorem s_74_46 {K : gC} : gOk K g_Ms mi_74 46 (ga_push (.int (-3)) 48) := gs_bipush (by decide +kernel : decode mi_74.2.1 46 = .ok (.bipush (-3), 2)) (by decide) rfl
theorem s_74_48 {K : gC} : gOk K g_Ms mi_74 48 (ga_iret) := gs_iret (by decide +kernel : decode mi_74.2.1 48 = .ok (.ireturn, 1)) rfl
theorem s_74_49 {K : gC} : gOk K g_Ms mi_74 49 (ga_aload 0 50) := gs_aload_n (by decide +kernel : decode mi_74.2.1 49 = .ok (.aload_n 0, 1)) rfl rfl
theorem s_74_50 {K : gC} : gOk K g_Ms mi_74 50 (ga_callV 6 75 0 53) := gs_callV gcls_6 (gce_X6_foretold (by decide) (by decide)) gw_495 gw_497 gw_11 (by decide +kernel : decode mi_74.2.1 50 = .ok (.invokevirtual 143, 3)) rfl
theorem s_74_53 {K : gC} : gOk K g_Ms mi_74 53 (ga_iload 1 54) := gs_iload_n (by decide +kernel : decode mi_74.2.1 53 = .ok (.iload_n 1, 1)) rfl rfl
theorem s_74_54 {K : gC} : gOk K g_Ms mi_74 54 (ga_iload 2 55) := gs_iload_n (by decide +kernel : decode mi_74.2.1 54 = .ok (.iload_n 2, 1)) rfl rfl
theorem s_74_55 {K : gC} : gOk K g_Ms mi_74 55 (ga_callV 1 17 2 58) := gs_callV gcls_1 (gce_X1_monksOnWay (by decide) (by decide)) gw_604 gw_605 gw_606 (by decide +kernel : decode mi_74.2.1 55 = .ok (.invokevirtual 183, 3)) rfl
theorem s_74_58 {K : gC} : gOk K g_Ms mi_74 58 (ga_istore 5 60) := gs_istore (by decide +kernel : decode mi_74.2.1 58 = .ok (.istore 5, 2)) rfl
theorem s_74_60 {K : gC} : gOk K g_Ms mi_74 60 (ga_iload 5 62) := gs_iload (by decide +kernel : decode mi_74.2.1 60 = .ok (.iload 5, 2)) rfl
theorem s_74_62 {K : gC} : gOk K g_Ms mi_74 62 (ga_push (.int (-1)) 63) := gs_iconst (by decide +kernel : decode mi_74.2.1 62 = .ok (.iconst (-1), 1)) (by decide) rfl
theorem s_74_63 {K : gC} : gOk K g_Ms mi_74 63 (ga_cmp (fun x y => decide (¬ x = y)) 69 66) := gs_cmp_ne (by decide +kernel : decode mi_74.2.1 63 = .ok (.if_icmp .ne 6, 3)) (by decide) rfl
theorem s_74_66 {K : gC} : gOk K g_Ms mi_74 66 (ga_iload 4 68) := gs_iload (by decide +kernel : decode mi_74.2.1 66 = .ok (.iload 4, 2)) rfl
theorem s_74_68 {K : gC} : gOk K g_Ms mi_74 68 (ga_iret) := gs_iret (by decide +kernel : decode mi_74.2.1 68 = .ok (.ireturn, 1)) rfl
theorem s_74_69 {K : gC} : gOk K g_Ms mi_74 69 (ga_push (.int 10) 71) := gs_bipush (by decide +kernel : decode mi_74.2.1 69 = .ok (.bipush 10, 2)) (by decide) rfl
theorem s_74_71 {K : gC} : gOk K g_Ms mi_74 71 (ga_iload 3 72) := gs_iload_n (by decide +kernel : decode mi_74.2.1 71 = .ok (.iload_n 3, 1)) rfl rfl
theorem s_74_72 {K : gC} : gOk K g_Ms mi_74 72 (ga_bin (fun x y => x - y) 73) := gs_isub (by decide +kernel : decode mi_74.2.1 72 = .ok (.isub, 1)) rfl
theorem s_74_73 {K : gC} : gOk K g_Ms mi_74 73 (ga_push (.int 10) 75) := gs_bipush (by decide +kernel : decode mi_74.2.1 73 = .ok (.bipush 10, 2)) (by decide) rfl
theorem s_74_75 {K : gC} : gOk K g_Ms mi_74 75 (ga_call 76 2 78) := gs_callS (gce_X6_commonDivisor (by decide) (by decide)) gw_608 gw_609 (by decide +kernel : decode mi_74.2.1 75 = .ok (.invokestatic 186, 3)) rfl
theorem s_74_78 {K : gC} : gOk K g_Ms mi_74 78 (ga_istore 6 80) := gs_istore (by decide +kernel : decode mi_74.2.1 78 = .ok (.istore 6, 2)) rfl
theorem s_74_80 {K : gC} : gOk K g_Ms mi_74 80 (ga_iload 4 82) := gs_iload (by decide +kernel : decode mi_74.2.1 80 = .ok (.iload 4, 2)) rfl
theorem s_74_82 {K : gC} : gOk K g_Ms mi_74 82 (ga_if (fun x => decide (¬ x = 0)) 92 85) := gs_if_ne (by decide +kernel : decode mi_74.2.1 82 = .ok (.ifCond .ne 10, 3)) (by decide) rfl
theorem s_74_85 {K : gC} : gOk K g_Ms mi_74 85 (ga_push (.int 10) 87) := gs_bipush (by decide +kernel : decode mi_74.2.1 85 = .ok (.bipush 10, 2)) (by decide) rfl
theorem s_74_87 {K : gC} : gOk K g_Ms mi_74 87 (ga_iload 3 88) := gs_iload_n (by decide +kernel : decode mi_74.2.1 87 = .ok (.iload_n 3, 1)) rfl rfl
theorem s_74_88 {K : gC} : gOk K g_Ms mi_74 88 (ga_bin (fun x y => x - y) 89) := gs_isub (by decide +kernel : decode mi_74.2.1 88 = .ok (.isub, 1)) rfl
theorem s_74_89 {K : gC} : gOk K g_Ms mi_74 89 (ga_goto 94) := gs_goto (by decide +kernel : decode mi_74.2.1 89 = .ok (.goto 5, 3)) (by decide)
theorem s_74_92 {K : gC} : gOk K g_Ms mi_74 92 (ga_push (.int 10) 94) := gs_bipush (by decide +kernel : decode mi_74.2.1 92 = .ok (.bipush 10, 2)) (by decide) rfl
theorem s_74_94 {K : gC} : gOk K g_Ms mi_74 94 (ga_istore 7 96) := gs_istore (by decide +kernel : decode mi_74.2.1 94 = .ok (.istore 7, 2)) rfl
theorem s_74_96 {K : gC} : gOk K g_Ms mi_74 96 (ga_iload 6 98) := gs_iload (by decide +kernel : decode mi_74.2.1 96 = .ok (.iload 6, 2)) rfl
theorem s_74_98 {K : gC} : gOk K g_Ms mi_74 98 (ga_if (fun x => decide (x ≤ 0)) 109 101) := gs_if_le (by decide +kernel : decode mi_74.2.1 98 = .ok (.ifCond .le 11, 3)) (by decide) rfl
theorem s_74_101 {K : gC} : gOk K g_Ms mi_74 101 (ga_iload 7 103) := gs_iload (by decide +kernel : decode mi_74.2.1 101 = .ok (.iload 7, 2)) rfl
theorem s_74_103 {K : gC} : gOk K g_Ms mi_74 103 (ga_iload 6 105) := gs_iload (by decide +kernel : decode mi_74.2.1 103 = .ok (.iload 6, 2)) rfl
theorem s_74_105 {K : gC} : gOk K g_Ms mi_74 105 (ga_div (fun x y => x / y) 106) := gs_idiv (by decide +kernel : decode mi_74.2.1 105 = .ok (.idiv, 1)) rfl
theorem s_74_106 {K : gC} : gOk K g_Ms mi_74 106 (ga_goto 111) := gs_goto (by decide +kernel : decode mi_74.2.1 106 = .ok (.goto 5, 3)) (by decide)
theorem s_74_109 {K : gC} : gOk K g_Ms mi_74 109 (ga_iload 7 111) := gs_iload (by decide +kernel : decode mi_74.2.1 109 = .ok (.iload 7, 2)) rfl
theorem s_74_111 {K : gC} : gOk K g_Ms mi_74 111 (ga_iload 5 113) := gs_iload (by decide +kernel : decode mi_74.2.1 111 = .ok (.iload 5, 2)) rfl
theorem s_74_113 {K : gC} : gOk K g_Ms mi_74 113 (ga_call 77 2 116) := gs_callS (gce_X6_power (by decide) (by decide)) gw_611 gw_612 (by decide +kernel : decode mi_74.2.1 113 = .ok (.invokestatic 189, 3)) rfl
theorem s_74_116 {K : gC} : gOk K g_Ms mi_74 116 (ga_iret) := gs_iret (by decide +kernel : decode mi_74.2.1 116 = .ok (.ireturn, 1)) rfl
theorem ok_74 {K : gC} : ∀ e ∈ t_74, gOk K g_Ms mi_74 e.1 e.2 := by
  unfold t_74
  simp only [List.forall_mem_cons, List.not_mem_nil, false_implies, implies_true, and_true]
  exact ⟨s_74_0, s_74_1, s_74_4, s_74_5, s_74_8, s_74_11, s_74_12, s_74_15, s_74_16, s_74_19, s_74_22, s_74_24, s_74_25, s_74_26, s_74_29, s_74_30, s_74_32, s_74_35, s_74_37, s_74_40, s_74_42, s_74_43, s_74_46, s_74_48, s_74_49, s_74_50, s_74_53, s_74_54, s_74_55, s_74_58, s_74_60, s_74_62, s_74_63, s_74_66, s_74_68, s_74_69, s_74_71, s_74_72, s_74_73, s_74_75, s_74_78, s_74_80, s_74_82, s_74_85, s_74_87, s_74_88, s_74_89, s_74_92, s_74_94, s_74_96, s_74_98, s_74_101, s_74_103, s_74_105, s_74_106, s_74_109, s_74_111, s_74_113, s_74_116⟩
theorem s_75_0 {K : gC} : gOk K g_Ms mi_75 0 (ga_aload 0 1) := gs_aload_n (by decide +kernel : decode mi_75.2.1 0 = .ok (.aload_n 0, 1)) rfl rfl
theorem s_75_1 {K : gC} : gOk K g_Ms mi_75 1 (ga_getR 6 7 4) := gs_getR gcls_6 (by decide) (by decide) gw_249 (by decide +kernel : decode mi_75.2.1 1 = .ok (.getfield 51, 3)) rfl
theorem s_75_4 {K : gC} : gOk K g_Ms mi_75 4 (ga_aload 0 5) := gs_aload_n (by decide +kernel : decode mi_75.2.1 4 = .ok (.aload_n 0, 1)) rfl rfl
theorem s_75_5 {K : gC} : gOk K g_Ms mi_75 5 (ga_getR 6 1 8) := gs_getR gcls_6 (by decide) (by decide) gw_243 (by decide +kernel : decode mi_75.2.1 5 = .ok (.getfield 19, 3)) rfl
theorem s_75_8 {K : gC} : gOk K g_Ms mi_75 8 (ga_aload 0 9) := gs_aload_n (by decide +kernel : decode mi_75.2.1 8 = .ok (.aload_n 0, 1)) rfl rfl
theorem s_75_9 {K : gC} : gOk K g_Ms mi_75 9 (ga_getR 6 3 12) := gs_getR gcls_6 (by decide) (by decide) gw_245 (by decide +kernel : decode mi_75.2.1 9 = .ok (.getfield 29, 3)) rfl
theorem s_75_12 {K : gC} : gOk K g_Ms mi_75 12 (ga_getI 2 4 15) := gs_getI gcls_2 (by decide) (by decide) gw_154 (by decide +kernel : decode mi_75.2.1 12 = .ok (.getfield 96, 3)) rfl
theorem s_75_15 {K : gC} : gOk K g_Ms mi_75 15 (ga_callV 1 9 2 18) := gs_callV gcls_1 (gce_X1_suppose (by decide) (by decide)) gw_499 gw_500 gw_501 (by decide +kernel : decode mi_75.2.1 15 = .ok (.invokevirtual 192, 3)) rfl
theorem s_75_18 {K : gC} : gOk K g_Ms mi_75 18 (ga_aload 0 19) := gs_aload_n (by decide +kernel : decode mi_75.2.1 18 = .ok (.aload_n 0, 1)) rfl rfl
theorem s_75_19 {K : gC} : gOk K g_Ms mi_75 19 (ga_getR 6 7 22) := gs_getR gcls_6 (by decide) (by decide) gw_249 (by decide +kernel : decode mi_75.2.1 19 = .ok (.getfield 51, 3)) rfl
theorem s_75_22 {K : gC} : gOk K g_Ms mi_75 22 (ga_aret) := gs_aret (by decide +kernel : decode mi_75.2.1 22 = .ok (.areturn, 1)) rfl
theorem ok_75 {K : gC} : ∀ e ∈ t_75, gOk K g_Ms mi_75 e.1 e.2 := by
  unfold t_75
  simp only [List.forall_mem_cons, List.not_mem_nil, false_implies, implies_true, and_true]
  exact ⟨s_75_0, s_75_1, s_75_4, s_75_5, s_75_8, s_75_9, s_75_12, s_75_15, s_75_18, s_75_19, s_75_22⟩
theorem s_76_0 {K : gC} : gOk K g_Ms mi_76 0 (ga_iload 1 1) := gs_iload_n (by decide +kernel : decode mi_76.2.1 0 = .ok (.iload_n 1, 1)) rfl rfl
theorem s_76_1 {K : gC} : gOk K g_Ms mi_76 1 (ga_istore 2 2) := gs_istore_n (by decide +kernel : decode mi_76.2.1 1 = .ok (.istore_n 2, 1)) rfl rfl
theorem s_76_2 {K : gC} : gOk K g_Ms mi_76 2 (ga_iload 2 3) := gs_iload_n (by decide +kernel : decode mi_76.2.1 2 = .ok (.iload_n 2, 1)) rfl rfl
theorem s_76_3 {K : gC} : gOk K g_Ms mi_76 3 (ga_push (.int 1) 4) := gs_iconst (by decide +kernel : decode mi_76.2.1 3 = .ok (.iconst 1, 1)) (by decide) rfl
theorem s_76_4 {K : gC} : gOk K g_Ms mi_76 4 (ga_cmp (fun x y => decide (x ≤ y)) 27 7) := gs_cmp_le (by decide +kernel : decode mi_76.2.1 4 = .ok (.if_icmp .le 23, 3)) (by decide) rfl
theorem s_76_7 {K : gC} : gOk K g_Ms mi_76 7 (ga_iload 0 8) := gs_iload_n (by decide +kernel : decode mi_76.2.1 7 = .ok (.iload_n 0, 1)) rfl rfl
theorem s_76_8 {K : gC} : gOk K g_Ms mi_76 8 (ga_iload 2 9) := gs_iload_n (by decide +kernel : decode mi_76.2.1 8 = .ok (.iload_n 2, 1)) rfl rfl
theorem s_76_9 {K : gC} : gOk K g_Ms mi_76 9 (ga_div (fun x y => x - x / y * y) 10) := gs_irem (by decide +kernel : decode mi_76.2.1 9 = .ok (.irem, 1)) rfl
theorem s_76_10 {K : gC} : gOk K g_Ms mi_76 10 (ga_if (fun x => decide (¬ x = 0)) 21 13) := gs_if_ne (by decide +kernel : decode mi_76.2.1 10 = .ok (.ifCond .ne 11, 3)) (by decide) rfl
theorem s_76_13 {K : gC} : gOk K g_Ms mi_76 13 (ga_iload 1 14) := gs_iload_n (by decide +kernel : decode mi_76.2.1 13 = .ok (.iload_n 1, 1)) rfl rfl
theorem s_76_14 {K : gC} : gOk K g_Ms mi_76 14 (ga_iload 2 15) := gs_iload_n (by decide +kernel : decode mi_76.2.1 14 = .ok (.iload_n 2, 1)) rfl rfl
theorem s_76_15 {K : gC} : gOk K g_Ms mi_76 15 (ga_div (fun x y => x - x / y * y) 16) := gs_irem (by decide +kernel : decode mi_76.2.1 15 = .ok (.irem, 1)) rfl
theorem s_76_16 {K : gC} : gOk K g_Ms mi_76 16 (ga_if (fun x => decide (¬ x = 0)) 21 19) := gs_if_ne (by decide +kernel : decode mi_76.2.1 16 = .ok (.ifCond .ne 5, 3)) (by decide) rfl
theorem s_76_19 {K : gC} : gOk K g_Ms mi_76 19 (ga_iload 2 20) := gs_iload_n (by decide +kernel : decode mi_76.2.1 19 = .ok (.iload_n 2, 1)) rfl rfl
theorem s_76_20 {K : gC} : gOk K g_Ms mi_76 20 (ga_iret) := gs_iret (by decide +kernel : decode mi_76.2.1 20 = .ok (.ireturn, 1)) rfl
theorem s_76_21 {K : gC} : gOk K g_Ms mi_76 21 (ga_iinc 2 (-1) 24) := gs_iinc (by decide +kernel : decode mi_76.2.1 21 = .ok (.iinc 2 (-1), 3)) (by decide) rfl
theorem s_76_24 {K : gC} : gOk K g_Ms mi_76 24 (ga_goto 2) := gs_goto (by decide +kernel : decode mi_76.2.1 24 = .ok (.goto (-22), 3)) (by decide)
theorem s_76_27 {K : gC} : gOk K g_Ms mi_76 27 (ga_push (.int 1) 28) := gs_iconst (by decide +kernel : decode mi_76.2.1 27 = .ok (.iconst 1, 1)) (by decide) rfl
theorem s_76_28 {K : gC} : gOk K g_Ms mi_76 28 (ga_iret) := gs_iret (by decide +kernel : decode mi_76.2.1 28 = .ok (.ireturn, 1)) rfl
theorem ok_76 {K : gC} : ∀ e ∈ t_76, gOk K g_Ms mi_76 e.1 e.2 := by
  unfold t_76
  simp only [List.forall_mem_cons, List.not_mem_nil, false_implies, implies_true, and_true]
  exact ⟨s_76_0, s_76_1, s_76_2, s_76_3, s_76_4, s_76_7, s_76_8, s_76_9, s_76_10, s_76_13, s_76_14, s_76_15, s_76_16, s_76_19, s_76_20, s_76_21, s_76_24, s_76_27, s_76_28⟩
theorem s_77_0 {K : gC} : gOk K g_Ms mi_77 0 (ga_push (.int 1) 1) := gs_iconst (by decide +kernel : decode mi_77.2.1 0 = .ok (.iconst 1, 1)) (by decide) rfl
theorem s_77_1 {K : gC} : gOk K g_Ms mi_77 1 (ga_istore 2 2) := gs_istore_n (by decide +kernel : decode mi_77.2.1 1 = .ok (.istore_n 2, 1)) rfl rfl
theorem s_77_2 {K : gC} : gOk K g_Ms mi_77 2 (ga_push (.int 0) 3) := gs_iconst (by decide +kernel : decode mi_77.2.1 2 = .ok (.iconst 0, 1)) (by decide) rfl
theorem s_77_3 {K : gC} : gOk K g_Ms mi_77 3 (ga_istore 3 4) := gs_istore_n (by decide +kernel : decode mi_77.2.1 3 = .ok (.istore_n 3, 1)) rfl rfl
theorem s_77_4 {K : gC} : gOk K g_Ms mi_77 4 (ga_iload 3 5) := gs_iload_n (by decide +kernel : decode mi_77.2.1 4 = .ok (.iload_n 3, 1)) rfl rfl
theorem s_77_5 {K : gC} : gOk K g_Ms mi_77 5 (ga_iload 1 6) := gs_iload_n (by decide +kernel : decode mi_77.2.1 5 = .ok (.iload_n 1, 1)) rfl rfl
theorem s_77_6 {K : gC} : gOk K g_Ms mi_77 6 (ga_cmp (fun x y => decide (y ≤ x)) 19 9) := gs_cmp_ge (by decide +kernel : decode mi_77.2.1 6 = .ok (.if_icmp .ge 13, 3)) (by decide) rfl
theorem s_77_9 {K : gC} : gOk K g_Ms mi_77 9 (ga_iload 2 10) := gs_iload_n (by decide +kernel : decode mi_77.2.1 9 = .ok (.iload_n 2, 1)) rfl rfl
theorem s_77_10 {K : gC} : gOk K g_Ms mi_77 10 (ga_iload 0 11) := gs_iload_n (by decide +kernel : decode mi_77.2.1 10 = .ok (.iload_n 0, 1)) rfl rfl
theorem s_77_11 {K : gC} : gOk K g_Ms mi_77 11 (ga_bin (fun x y => x * y) 12) := gs_imul (by decide +kernel : decode mi_77.2.1 11 = .ok (.imul, 1)) rfl
theorem s_77_12 {K : gC} : gOk K g_Ms mi_77 12 (ga_istore 2 13) := gs_istore_n (by decide +kernel : decode mi_77.2.1 12 = .ok (.istore_n 2, 1)) rfl rfl
theorem s_77_13 {K : gC} : gOk K g_Ms mi_77 13 (ga_iinc 3 1 16) := gs_iinc (by decide +kernel : decode mi_77.2.1 13 = .ok (.iinc 3 1, 3)) (by decide) rfl
theorem s_77_16 {K : gC} : gOk K g_Ms mi_77 16 (ga_goto 4) := gs_goto (by decide +kernel : decode mi_77.2.1 16 = .ok (.goto (-12), 3)) (by decide)
theorem s_77_19 {K : gC} : gOk K g_Ms mi_77 19 (ga_iload 2 20) := gs_iload_n (by decide +kernel : decode mi_77.2.1 19 = .ok (.iload_n 2, 1)) rfl rfl
theorem s_77_20 {K : gC} : gOk K g_Ms mi_77 20 (ga_iret) := gs_iret (by decide +kernel : decode mi_77.2.1 20 = .ok (.ireturn, 1)) rfl
theorem ok_77 {K : gC} : ∀ e ∈ t_77, gOk K g_Ms mi_77 e.1 e.2 := by
  unfold t_77
  simp only [List.forall_mem_cons, List.not_mem_nil, false_implies, implies_true, and_true]
  exact ⟨s_77_0, s_77_1, s_77_2, s_77_3, s_77_4, s_77_5, s_77_6, s_77_9, s_77_10, s_77_11, s_77_12, s_77_13, s_77_16, s_77_19, s_77_20⟩
theorem s_78_0 {K : gC} : gOk K g_Ms mi_78 0 (ga_aload 0 1) := gs_aload_n (by decide +kernel : decode mi_78.2.1 0 = .ok (.aload_n 0, 1)) rfl rfl
theorem s_78_1 {K : gC} : gOk K g_Ms mi_78 1 (ga_getR 6 1 4) := gs_getR gcls_6 (by decide) (by decide) gw_243 (by decide +kernel : decode mi_78.2.1 1 = .ok (.getfield 19, 3)) rfl
theorem s_78_4 {K : gC} : gOk K g_Ms mi_78 4 (ga_iload 1 5) := gs_iload_n (by decide +kernel : decode mi_78.2.1 4 = .ok (.iload_n 1, 1)) rfl rfl
theorem s_78_5 {K : gC} : gOk K g_Ms mi_78 5 (ga_callV 0 3 1 8) := gs_callV gcls_0 (gce_X0_has (by decide) (by decide)) gw_416 gw_417 gw_418 (by decide +kernel : decode mi_78.2.1 5 = .ok (.invokevirtual 85, 3)) rfl
theorem s_78_8 {K : gC} : gOk K g_Ms mi_78 8 (ga_if (fun x => decide (¬ x = 0)) 14 11) := gs_if_ne (by decide +kernel : decode mi_78.2.1 8 = .ok (.ifCond .ne 6, 3)) (by decide) rfl
theorem s_78_11 {K : gC} : gOk K g_Ms mi_78 11 (ga_push (.int (-2)) 13) := gs_bipush (by decide +kernel : decode mi_78.2.1 11 = .ok (.bipush (-2), 2)) (by decide) rfl
theorem s_78_13 {K : gC} : gOk K g_Ms mi_78 13 (ga_iret) := gs_iret (by decide +kernel : decode mi_78.2.1 13 = .ok (.ireturn, 1)) rfl
theorem s_78_14 {K : gC} : gOk K g_Ms mi_78 14 (ga_iload 2 15) := gs_iload_n (by decide +kernel : decode mi_78.2.1 14 = .ok (.iload_n 2, 1)) rfl rfl
theorem s_78_15 {K : gC} : gOk K g_Ms mi_78 15 (ga_if (fun x => decide (x < 0)) 23 18) := gs_if_lt (by decide +kernel : decode mi_78.2.1 15 = .ok (.ifCond .lt 8, 3)) (by decide) rfl
theorem s_78_18 {K : gC} : gOk K g_Ms mi_78 18 (ga_iload 2 19) := gs_iload_n (by decide +kernel : decode mi_78.2.1 18 = .ok (.iload_n 2, 1)) rfl rfl
theorem s_78_19 {K : gC} : gOk K g_Ms mi_78 19 (ga_push (.int 1) 20) := gs_iconst (by decide +kernel : decode mi_78.2.1 19 = .ok (.iconst 1, 1)) (by decide) rfl
theorem s_78_20 {K : gC} : gOk K g_Ms mi_78 20 (ga_cmp (fun x y => decide (x ≤ y)) 26 23) := gs_cmp_le (by decide +kernel : decode mi_78.2.1 20 = .ok (.if_icmp .le 6, 3)) (by decide) rfl
theorem s_78_23 {K : gC} : gOk K g_Ms mi_78 23 (ga_push (.int (-3)) 25) := gs_bipush (by decide +kernel : decode mi_78.2.1 23 = .ok (.bipush (-3), 2)) (by decide) rfl
theorem s_78_25 {K : gC} : gOk K g_Ms mi_78 25 (ga_iret) := gs_iret (by decide +kernel : decode mi_78.2.1 25 = .ok (.ireturn, 1)) rfl
theorem s_78_26 {K : gC} : gOk K g_Ms mi_78 26 (ga_aload 0 27) := gs_aload_n (by decide +kernel : decode mi_78.2.1 26 = .ok (.aload_n 0, 1)) rfl rfl
theorem s_78_27 {K : gC} : gOk K g_Ms mi_78 27 (ga_getR 6 6 30) := gs_getR gcls_6 (by decide) (by decide) gw_248 (by decide +kernel : decode mi_78.2.1 27 = .ok (.getfield 44, 3)) rfl
theorem s_78_30 {K : gC} : gOk K g_Ms mi_78 30 (ga_iload 1 31) := gs_iload_n (by decide +kernel : decode mi_78.2.1 30 = .ok (.iload_n 1, 1)) rfl rfl
theorem s_78_31 {K : gC} : gOk K g_Ms mi_78 31 (ga_iload 2 32) := gs_iload_n (by decide +kernel : decode mi_78.2.1 31 = .ok (.iload_n 2, 1)) rfl rfl
theorem s_78_32 {K : gC} : gOk K g_Ms mi_78 32 (ga_push (.int 1) 33) := gs_iconst (by decide +kernel : decode mi_78.2.1 32 = .ok (.iconst 1, 1)) (by decide) rfl
theorem s_78_33 {K : gC} : gOk K g_Ms mi_78 33 (ga_cmp (fun x y => decide (¬ x = y)) 40 36) := gs_cmp_ne (by decide +kernel : decode mi_78.2.1 33 = .ok (.if_icmp .ne 7, 3)) (by decide) rfl
theorem s_78_36 {K : gC} : gOk K g_Ms mi_78 36 (ga_push (.int 1) 37) := gs_iconst (by decide +kernel : decode mi_78.2.1 36 = .ok (.iconst 1, 1)) (by decide) rfl
theorem s_78_37 {K : gC} : gOk K g_Ms mi_78 37 (ga_goto 41) := gs_goto (by decide +kernel : decode mi_78.2.1 37 = .ok (.goto 4, 3)) (by decide)
theorem s_78_40 {K : gC} : gOk K g_Ms mi_78 40 (ga_push (.int 0) 41) := gs_iconst (by decide +kernel : decode mi_78.2.1 40 = .ok (.iconst 0, 1)) (by decide) rfl
theorem s_78_41 {K : gC} : gOk K g_Ms mi_78 41 (ga_callV 3 32 2 44) := gs_callV gcls_3 (gce_X3_note (by decide) (by decide)) gw_618 gw_619 gw_620 (by decide +kernel : decode mi_78.2.1 41 = .ok (.invokevirtual 195, 3)) rfl
theorem s_78_44 {K : gC} : gOk K g_Ms mi_78 44 (ga_if (fun x => decide (x = 0)) 57 47) := gs_if_eq (by decide +kernel : decode mi_78.2.1 44 = .ok (.ifCond .eq 13, 3)) (by decide) rfl
theorem s_78_47 {K : gC} : gOk K g_Ms mi_78 47 (ga_aload 0 48) := gs_aload_n (by decide +kernel : decode mi_78.2.1 47 = .ok (.aload_n 0, 1)) rfl rfl
theorem s_78_48 {K : gC} : gOk K g_Ms mi_78 48 (ga_getR 6 6 51) := gs_getR gcls_6 (by decide) (by decide) gw_248 (by decide +kernel : decode mi_78.2.1 48 = .ok (.getfield 44, 3)) rfl
theorem s_78_51 {K : gC} : gOk K g_Ms mi_78 51 (ga_getI 3 2 54) := gs_getI gcls_3 (by decide) (by decide) gw_178 (by decide +kernel : decode mi_78.2.1 51 = .ok (.getfield 79, 3)) rfl
theorem s_78_54 {K : gC} : gOk K g_Ms mi_78 54 (ga_goto 59) := gs_goto (by decide +kernel : decode mi_78.2.1 54 = .ok (.goto 5, 3)) (by decide)
theorem s_78_57 {K : gC} : gOk K g_Ms mi_78 57 (ga_push (.int (-5)) 59) := gs_bipush (by decide +kernel : decode mi_78.2.1 57 = .ok (.bipush (-5), 2)) (by decide) rfl
theorem s_78_59 {K : gC} : gOk K g_Ms mi_78 59 (ga_iret) := gs_iret (by decide +kernel : decode mi_78.2.1 59 = .ok (.ireturn, 1)) rfl
theorem ok_78 {K : gC} : ∀ e ∈ t_78, gOk K g_Ms mi_78 e.1 e.2 := by
  unfold t_78
  simp only [List.forall_mem_cons, List.not_mem_nil, false_implies, implies_true, and_true]
  exact ⟨s_78_0, s_78_1, s_78_4, s_78_5, s_78_8, s_78_11, s_78_13, s_78_14, s_78_15, s_78_18, s_78_19, s_78_20, s_78_23, s_78_25, s_78_26, s_78_27, s_78_30, s_78_31, s_78_32, s_78_33, s_78_36, s_78_37, s_78_40, s_78_41, s_78_44, s_78_47, s_78_48, s_78_51, s_78_54, s_78_57, s_78_59⟩
theorem s_79_0 {K : gC} : gOk K g_Ms mi_79 0 (ga_aload 0 1) := gs_aload_n (by decide +kernel : decode mi_79.2.1 0 = .ok (.aload_n 0, 1)) rfl rfl
theorem s_79_1 {K : gC} : gOk K g_Ms mi_79 1 (ga_getR 6 6 4) := gs_getR gcls_6 (by decide) (by decide) gw_248 (by decide +kernel : decode mi_79.2.1 1 = .ok (.getfield 44, 3)) rfl
theorem s_79_4 {K : gC} : gOk K g_Ms mi_79 4 (ga_getI 3 2 7) := gs_getI gcls_3 (by decide) (by decide) gw_178 (by decide +kernel : decode mi_79.2.1 4 = .ok (.getfield 79, 3)) rfl
theorem s_79_7 {K : gC} : gOk K g_Ms mi_79 7 (ga_istore 1 8) := gs_istore_n (by decide +kernel : decode mi_79.2.1 7 = .ok (.istore_n 1, 1)) rfl rfl
theorem s_79_8 {K : gC} : gOk K g_Ms mi_79 8 (ga_aload 0 9) := gs_aload_n (by decide +kernel : decode mi_79.2.1 8 = .ok (.aload_n 0, 1)) rfl rfl
theorem s_79_9 {K : gC} : gOk K g_Ms mi_79 9 (ga_getR 6 6 12) := gs_getR gcls_6 (by decide) (by decide) gw_248 (by decide +kernel : decode mi_79.2.1 9 = .ok (.getfield 44, 3)) rfl
theorem s_79_12 {K : gC} : gOk K g_Ms mi_79 12 (ga_push (.int 0) 13) := gs_iconst (by decide +kernel : decode mi_79.2.1 12 = .ok (.iconst 0, 1)) (by decide) rfl
theorem s_79_13 {K : gC} : gOk K g_Ms mi_79 13 (ga_putI 3 2 16) := gs_putI gcls_3 (by decide) (by decide) rfl rfl gw_178 (by decide +kernel : decode mi_79.2.1 13 = .ok (.putfield 79, 3)) rfl
theorem s_79_16 {K : gC} : gOk K g_Ms mi_79 16 (ga_iload 1 17) := gs_iload_n (by decide +kernel : decode mi_79.2.1 16 = .ok (.iload_n 1, 1)) rfl rfl
theorem s_79_17 {K : gC} : gOk K g_Ms mi_79 17 (ga_iret) := gs_iret (by decide +kernel : decode mi_79.2.1 17 = .ok (.ireturn, 1)) rfl
theorem ok_79 {K : gC} : ∀ e ∈ t_79, gOk K g_Ms mi_79 e.1 e.2 := by
  unfold t_79
  simp only [List.forall_mem_cons, List.not_mem_nil, false_implies, implies_true, and_true]
  exact ⟨s_79_0, s_79_1, s_79_4, s_79_7, s_79_8, s_79_9, s_79_12, s_79_13, s_79_16, s_79_17⟩
theorem s_80_0 {K : gC} : gOk K g_Ms mi_80 0 (ga_aload 0 1) := gs_aload_n (by decide +kernel : decode mi_80.2.1 0 = .ok (.aload_n 0, 1)) rfl rfl
theorem s_80_1 {K : gC} : gOk K g_Ms mi_80 1 (ga_getR 6 1 4) := gs_getR gcls_6 (by decide) (by decide) gw_243 (by decide +kernel : decode mi_80.2.1 1 = .ok (.getfield 19, 3)) rfl
theorem s_80_4 {K : gC} : gOk K g_Ms mi_80 4 (ga_iload 1 5) := gs_iload_n (by decide +kernel : decode mi_80.2.1 4 = .ok (.iload_n 1, 1)) rfl rfl
theorem s_80_5 {K : gC} : gOk K g_Ms mi_80 5 (ga_callV 0 3 1 8) := gs_callV gcls_0 (gce_X0_has (by decide) (by decide)) gw_416 gw_417 gw_418 (by decide +kernel : decode mi_80.2.1 5 = .ok (.invokevirtual 85, 3)) rfl
theorem s_80_8 {K : gC} : gOk K g_Ms mi_80 8 (ga_if (fun x => decide (¬ x = 0)) 14 11) := gs_if_ne (by decide +kernel : decode mi_80.2.1 8 = .ok (.ifCond .ne 6, 3)) (by decide) rfl
theorem s_80_11 {K : gC} : gOk K g_Ms mi_80 11 (ga_push (.int (-2)) 13) := gs_bipush (by decide +kernel : decode mi_80.2.1 11 = .ok (.bipush (-2), 2)) (by decide) rfl
theorem s_80_13 {K : gC} : gOk K g_Ms mi_80 13 (ga_iret) := gs_iret (by decide +kernel : decode mi_80.2.1 13 = .ok (.ireturn, 1)) rfl
theorem s_80_14 {K : gC} : gOk K g_Ms mi_80 14 (ga_iload 2 15) := gs_iload_n (by decide +kernel : decode mi_80.2.1 14 = .ok (.iload_n 2, 1)) rfl rfl
theorem s_80_15 {K : gC} : gOk K g_Ms mi_80 15 (ga_if (fun x => decide (x < 0)) 23 18) := gs_if_lt (by decide +kernel : decode mi_80.2.1 15 = .ok (.ifCond .lt 8, 3)) (by decide) rfl
theorem s_80_18 {K : gC} : gOk K g_Ms mi_80 18 (ga_iload 2 19) := gs_iload_n (by decide +kernel : decode mi_80.2.1 18 = .ok (.iload_n 2, 1)) rfl rfl
theorem s_80_19 {K : gC} : gOk K g_Ms mi_80 19 (ga_push (.int 1) 20) := gs_iconst (by decide +kernel : decode mi_80.2.1 19 = .ok (.iconst 1, 1)) (by decide) rfl
theorem s_80_20 {K : gC} : gOk K g_Ms mi_80 20 (ga_cmp (fun x y => decide (x ≤ y)) 26 23) := gs_cmp_le (by decide +kernel : decode mi_80.2.1 20 = .ok (.if_icmp .le 6, 3)) (by decide) rfl
theorem s_80_23 {K : gC} : gOk K g_Ms mi_80 23 (ga_push (.int (-3)) 25) := gs_bipush (by decide +kernel : decode mi_80.2.1 23 = .ok (.bipush (-3), 2)) (by decide) rfl
theorem s_80_25 {K : gC} : gOk K g_Ms mi_80 25 (ga_iret) := gs_iret (by decide +kernel : decode mi_80.2.1 25 = .ok (.ireturn, 1)) rfl
theorem s_80_26 {K : gC} : gOk K g_Ms mi_80 26 (ga_aload 0 27) := gs_aload_n (by decide +kernel : decode mi_80.2.1 26 = .ok (.aload_n 0, 1)) rfl rfl
theorem s_80_27 {K : gC} : gOk K g_Ms mi_80 27 (ga_callV 6 75 0 30) := gs_callV gcls_6 (gce_X6_foretold (by decide) (by decide)) gw_495 gw_497 gw_11 (by decide +kernel : decode mi_80.2.1 27 = .ok (.invokevirtual 143, 3)) rfl
theorem s_80_30 {K : gC} : gOk K g_Ms mi_80 30 (ga_astore 3 31) := gs_astore_n (by decide +kernel : decode mi_80.2.1 30 = .ok (.astore_n 3, 1)) rfl rfl
theorem s_80_31 {K : gC} : gOk K g_Ms mi_80 31 (ga_iload 2 32) := gs_iload_n (by decide +kernel : decode mi_80.2.1 31 = .ok (.iload_n 2, 1)) rfl rfl
theorem s_80_32 {K : gC} : gOk K g_Ms mi_80 32 (ga_push (.int 1) 33) := gs_iconst (by decide +kernel : decode mi_80.2.1 32 = .ok (.iconst 1, 1)) (by decide) rfl
theorem s_80_33 {K : gC} : gOk K g_Ms mi_80 33 (ga_cmp (fun x y => decide (¬ x = y)) 57 36) := gs_cmp_ne (by decide +kernel : decode mi_80.2.1 33 = .ok (.if_icmp .ne 24, 3)) (by decide) rfl
theorem s_80_36 {K : gC} : gOk K g_Ms mi_80 36 (ga_aload 0 37) := gs_aload_n (by decide +kernel : decode mi_80.2.1 36 = .ok (.aload_n 0, 1)) rfl rfl
theorem s_80_37 {K : gC} : gOk K g_Ms mi_80 37 (ga_getR 6 6 40) := gs_getR gcls_6 (by decide) (by decide) gw_248 (by decide +kernel : decode mi_80.2.1 37 = .ok (.getfield 44, 3)) rfl
theorem s_80_40 {K : gC} : gOk K g_Ms mi_80 40 (ga_aload 3 41) := gs_aload_n (by decide +kernel : decode mi_80.2.1 40 = .ok (.aload_n 3, 1)) rfl rfl
theorem s_80_41 {K : gC} : gOk K g_Ms mi_80 41 (ga_iload 1 42) := gs_iload_n (by decide +kernel : decode mi_80.2.1 41 = .ok (.iload_n 1, 1)) rfl rfl
theorem s_80_42 {K : gC} : gOk K g_Ms mi_80 42 (ga_callV 1 12 1 45) := gs_callV gcls_1 (gce_X1_strikers (by decide) (by decide)) gw_522 gw_523 gw_524 (by decide +kernel : decode mi_80.2.1 42 = .ok (.invokevirtual 150, 3)) rfl
theorem s_80_45 {K : gC} : gOk K g_Ms mi_80 45 (ga_callV 3 33 1 48) := gs_callV gcls_3 (gce_X3_agreeWith (by decide) (by decide)) gw_630 gw_631 gw_632 (by decide +kernel : decode mi_80.2.1 45 = .ok (.invokevirtual 199, 3)) rfl
theorem s_80_48 {K : gC} : gOk K g_Ms mi_80 48 (ga_if (fun x => decide (x = 0)) 55 51) := gs_if_eq (by decide +kernel : decode mi_80.2.1 48 = .ok (.ifCond .eq 7, 3)) (by decide) rfl
theorem s_80_51 {K : gC} : gOk K g_Ms mi_80 51 (ga_push (.int 1) 52) := gs_iconst (by decide +kernel : decode mi_80.2.1 51 = .ok (.iconst 1, 1)) (by decide) rfl
theorem s_80_52 {K : gC} : gOk K g_Ms mi_80 52 (ga_goto 56) := gs_goto (by decide +kernel : decode mi_80.2.1 52 = .ok (.goto 4, 3)) (by decide)
theorem s_80_55 {K : gC} : gOk K g_Ms mi_80 55 (ga_push (.int 0) 56) := gs_iconst (by decide +kernel : decode mi_80.2.1 55 = .ok (.iconst 0, 1)) (by decide) rfl
theorem s_80_56 {K : gC} : gOk K g_Ms mi_80 56 (ga_iret) := gs_iret (by decide +kernel : decode mi_80.2.1 56 = .ok (.ireturn, 1)) rfl
theorem s_80_57 {K : gC} : gOk K g_Ms mi_80 57 (ga_push (.int 0) 58) := gs_iconst (by decide +kernel : decode mi_80.2.1 57 = .ok (.iconst 0, 1)) (by decide) rfl
theorem s_80_58 {K : gC} : gOk K g_Ms mi_80 58 (ga_istore 4 60) := gs_istore (by decide +kernel : decode mi_80.2.1 58 = .ok (.istore 4, 2)) rfl
theorem s_80_60 {K : gC} : gOk K g_Ms mi_80 60 (ga_push (.int 0) 61) := gs_iconst (by decide +kernel : decode mi_80.2.1 60 = .ok (.iconst 0, 1)) (by decide) rfl
theorem s_80_61 {K : gC} : gOk K g_Ms mi_80 61 (ga_istore 5 63) := gs_istore (by decide +kernel : decode mi_80.2.1 61 = .ok (.istore 5, 2)) rfl
theorem s_80_63 {K : gC} : gOk K g_Ms mi_80 63 (ga_iload 5 65) := gs_iload (by decide +kernel : decode mi_80.2.1 63 = .ok (.iload 5, 2)) rfl
theorem s_80_65 {K : gC} : gOk K g_Ms mi_80 65 (ga_aload 0 66) := gs_aload_n (by decide +kernel : decode mi_80.2.1 65 = .ok (.aload_n 0, 1)) rfl rfl
theorem s_80_66 {K : gC} : gOk K g_Ms mi_80 66 (ga_getR 6 1 69) := gs_getR gcls_6 (by decide) (by decide) gw_243 (by decide +kernel : decode mi_80.2.1 66 = .ok (.getfield 19, 3)) rfl
theorem s_80_69 {K : gC} : gOk K g_Ms mi_80 69 (ga_getI 0 4 72) := gs_getI gcls_0 (by decide) (by decide) gw_123 (by decide +kernel : decode mi_80.2.1 69 = .ok (.getfield 202, 3)) rfl
theorem s_80_72 {K : gC} : gOk K g_Ms mi_80 72 (ga_cmp (fun x y => decide (y ≤ x)) 117 75) := gs_cmp_ge (by decide +kernel : decode mi_80.2.1 72 = .ok (.if_icmp .ge 45, 3)) (by decide) rfl
theorem s_80_75 {K : gC} : gOk K g_Ms mi_80 75 (ga_aload 3 76) := gs_aload_n (by decide +kernel : decode mi_80.2.1 75 = .ok (.aload_n 3, 1)) rfl rfl
theorem s_80_76 {K : gC} : gOk K g_Ms mi_80 76 (ga_iload 5 78) := gs_iload (by decide +kernel : decode mi_80.2.1 76 = .ok (.iload 5, 2)) rfl
theorem s_80_78 {K : gC} : gOk K g_Ms mi_80 78 (ga_putI 1 4 81) := gs_putI gcls_1 (by decide) (by decide) rfl rfl gw_218 (by decide +kernel : decode mi_80.2.1 78 = .ok (.putfield 205, 3)) rfl
theorem s_80_81 {K : gC} : gOk K g_Ms mi_80 81 (ga_iload 5 83) := gs_iload (by decide +kernel : decode mi_80.2.1 81 = .ok (.iload 5, 2)) rfl
theorem s_80_83 {K : gC} : gOk K g_Ms mi_80 83 (ga_iload 1 84) := gs_iload_n (by decide +kernel : decode mi_80.2.1 83 = .ok (.iload_n 1, 1)) rfl rfl
theorem s_80_84 {K : gC} : gOk K g_Ms mi_80 84 (ga_cmp (fun x y => decide (x = y)) 111 87) := gs_cmp_eq (by decide +kernel : decode mi_80.2.1 84 = .ok (.if_icmp .eq 27, 3)) (by decide) rfl
theorem s_80_87 {K : gC} : gOk K g_Ms mi_80 87 (ga_aload 0 88) := gs_aload_n (by decide +kernel : decode mi_80.2.1 87 = .ok (.aload_n 0, 1)) rfl rfl
theorem s_80_88 {K : gC} : gOk K g_Ms mi_80 88 (ga_getR 6 6 91) := gs_getR gcls_6 (by decide) (by decide) gw_248 (by decide +kernel : decode mi_80.2.1 88 = .ok (.getfield 44, 3)) rfl
theorem s_80_91 {K : gC} : gOk K g_Ms mi_80 91 (ga_aload 3 92) := gs_aload_n (by decide +kernel : decode mi_80.2.1 91 = .ok (.aload_n 3, 1)) rfl rfl
theorem s_80_92 {K : gC} : gOk K g_Ms mi_80 92 (ga_iload 1 93) := gs_iload_n (by decide +kernel : decode mi_80.2.1 92 = .ok (.iload_n 1, 1)) rfl rfl
theorem s_80_93 {K : gC} : gOk K g_Ms mi_80 93 (ga_callV 1 12 1 96) := gs_callV gcls_1 (gce_X1_strikers (by decide) (by decide)) gw_522 gw_523 gw_524 (by decide +kernel : decode mi_80.2.1 93 = .ok (.invokevirtual 150, 3)) rfl
theorem s_80_96 {K : gC} : gOk K g_Ms mi_80 96 (ga_callV 3 33 1 99) := gs_callV gcls_3 (gce_X3_agreeWith (by decide) (by decide)) gw_630 gw_631 gw_632 (by decide +kernel : decode mi_80.2.1 96 = .ok (.invokevirtual 199, 3)) rfl
theorem s_80_99 {K : gC} : gOk K g_Ms mi_80 99 (ga_if (fun x => decide (x = 0)) 111 102) := gs_if_eq (by decide +kernel : decode mi_80.2.1 99 = .ok (.ifCond .eq 12, 3)) (by decide) rfl
theorem s_80_102 {K : gC} : gOk K g_Ms mi_80 102 (ga_iload 4 104) := gs_iload (by decide +kernel : decode mi_80.2.1 102 = .ok (.iload 4, 2)) rfl
theorem s_80_104 {K : gC} : gOk K g_Ms mi_80 104 (ga_push (.int 1) 105) := gs_iconst (by decide +kernel : decode mi_80.2.1 104 = .ok (.iconst 1, 1)) (by decide) rfl
theorem s_80_105 {K : gC} : gOk K g_Ms mi_80 105 (ga_iload 5 107) := gs_iload (by decide +kernel : decode mi_80.2.1 105 = .ok (.iload 5, 2)) rfl
theorem s_80_107 {K : gC} : gOk K g_Ms mi_80 107 (ga_bin (fun x y => x <<< (y &&& 31)) 108) := gs_ishl (by decide +kernel : decode mi_80.2.1 107 = .ok (.ishl, 1)) rfl
theorem s_80_108 {K : gC} : gOk K g_Ms mi_80 108 (ga_bin (fun x y => x ||| y) 109) := gs_ior (by decide +kernel : decode mi_80.2.1 108 = .ok (.ior, 1)) rfl
theorem s_80_109 {K : gC} : gOk K g_Ms mi_80 109 (ga_istore 4 111) := gs_istore (by decide +kernel : decode mi_80.2.1 109 = .ok (.istore 4, 2)) rfl
theorem s_80_111 {K : gC} : gOk K g_Ms mi_80 111 (ga_iinc 5 1 114) := gs_iinc (by decide +kernel : decode mi_80.2.1 111 = .ok (.iinc 5 1, 3)) (by decide) rfl
theorem s_80_114 {K : gC} : gOk K g_Ms mi_80 114 (ga_goto 63) := gs_goto (by decide +kernel : decode mi_80.2.1 114 = .ok (.goto (-51), 3)) (by decide)
theorem s_80_117 {K : gC} : gOk K g_Ms mi_80 117 (ga_iload 4 119) := gs_iload (by decide +kernel : decode mi_80.2.1 117 = .ok (.iload 4, 2)) rfl
theorem s_80_119 {K : gC} : gOk K g_Ms mi_80 119 (ga_iret) := gs_iret (by decide +kernel : decode mi_80.2.1 119 = .ok (.ireturn, 1)) rfl
theorem ok_80 {K : gC} : ∀ e ∈ t_80, gOk K g_Ms mi_80 e.1 e.2 := by
  unfold t_80
  simp only [List.forall_mem_cons, List.not_mem_nil, false_implies, implies_true, and_true]
  exact ⟨s_80_0, s_80_1, s_80_4, s_80_5, s_80_8, s_80_11, s_80_13, s_80_14, s_80_15, s_80_18, s_80_19, s_80_20, s_80_23, s_80_25, s_80_26, s_80_27, s_80_30, s_80_31, s_80_32, s_80_33, s_80_36, s_80_37, s_80_40, s_80_41, s_80_42, s_80_45, s_80_48, s_80_51, s_80_52, s_80_55, s_80_56, s_80_57, s_80_58, s_80_60, s_80_61, s_80_63, s_80_65, s_80_66, s_80_69, s_80_72, s_80_75, s_80_76, s_80_78, s_80_81, s_80_83, s_80_84, s_80_87, s_80_88, s_80_91, s_80_92, s_80_93, s_80_96, s_80_99, s_80_102, s_80_104, s_80_105, s_80_107, s_80_108, s_80_109, s_80_111, s_80_114, s_80_117, s_80_119⟩
theorem s_81_0 {K : gC} : gOk K g_Ms mi_81 0 (ga_iload 1 1) := gs_iload_n (by decide +kernel : decode mi_81.2.1 0 = .ok (.iload_n 1, 1)) rfl rfl
theorem s_81_1 {K : gC} : gOk K g_Ms mi_81 1 (ga_switch 0 [44, 52, 60, 68, 76, 84, 92] 100) := gs_switch (by decide +kernel : decode mi_81.2.1 1 = .ok (.tableswitch 99 0 6 #[43, 51, 59, 67, 75, 83, 91], 43)) (by decide) (by decide) (by decide)
theorem s_81_44 {K : gC} : gOk K g_Ms mi_81 44 (ga_aload 0 45) := gs_aload_n (by decide +kernel : decode mi_81.2.1 44 = .ok (.aload_n 0, 1)) rfl rfl
theorem s_81_45 {K : gC} : gOk K g_Ms mi_81 45 (ga_getR 6 1 48) := gs_getR gcls_6 (by decide) (by decide) gw_243 (by decide +kernel : decode mi_81.2.1 45 = .ok (.getfield 19, 3)) rfl
theorem s_81_48 {K : gC} : gOk K g_Ms mi_81 48 (ga_getI 0 4 51) := gs_getI gcls_0 (by decide) (by decide) gw_123 (by decide +kernel : decode mi_81.2.1 48 = .ok (.getfield 202, 3)) rfl
theorem s_81_51 {K : gC} : gOk K g_Ms mi_81 51 (ga_iret) := gs_iret (by decide +kernel : decode mi_81.2.1 51 = .ok (.ireturn, 1)) rfl
theorem s_81_52 {K : gC} : gOk K g_Ms mi_81 52 (ga_aload 0 53) := gs_aload_n (by decide +kernel : decode mi_81.2.1 52 = .ok (.aload_n 0, 1)) rfl rfl
theorem s_81_53 {K : gC} : gOk K g_Ms mi_81 53 (ga_getR 6 3 56) := gs_getR gcls_6 (by decide) (by decide) gw_245 (by decide +kernel : decode mi_81.2.1 53 = .ok (.getfield 29, 3)) rfl
theorem s_81_56 {K : gC} : gOk K g_Ms mi_81 56 (ga_getI 2 4 59) := gs_getI gcls_2 (by decide) (by decide) gw_154 (by decide +kernel : decode mi_81.2.1 56 = .ok (.getfield 96, 3)) rfl
theorem s_81_59 {K : gC} : gOk K g_Ms mi_81 59 (ga_iret) := gs_iret (by decide +kernel : decode mi_81.2.1 59 = .ok (.ireturn, 1)) rfl
theorem s_81_60 {K : gC} : gOk K g_Ms mi_81 60 (ga_aload 0 61) := gs_aload_n (by decide +kernel : decode mi_81.2.1 60 = .ok (.aload_n 0, 1)) rfl rfl
theorem s_81_61 {K : gC} : gOk K g_Ms mi_81 61 (ga_getR 6 3 64) := gs_getR gcls_6 (by decide) (by decide) gw_245 (by decide +kernel : decode mi_81.2.1 61 = .ok (.getfield 29, 3)) rfl
theorem s_81_64 {K : gC} : gOk K g_Ms mi_81 64 (ga_getI 2 3 67) := gs_getI gcls_2 (by decide) (by decide) gw_152 (by decide +kernel : decode mi_81.2.1 64 = .ok (.getfield 133, 3)) rfl
theorem s_81_67 {K : gC} : gOk K g_Ms mi_81 67 (ga_iret) := gs_iret (by decide +kernel : decode mi_81.2.1 67 = .ok (.ireturn, 1)) rfl
theorem s_81_68 {K : gC} : gOk K g_Ms mi_81 68 (ga_aload 0 69) := gs_aload_n (by decide +kernel : decode mi_81.2.1 68 = .ok (.aload_n 0, 1)) rfl rfl
theorem s_81_69 {K : gC} : gOk K g_Ms mi_81 69 (ga_getR 6 3 72) := gs_getR gcls_6 (by decide) (by decide) gw_245 (by decide +kernel : decode mi_81.2.1 69 = .ok (.getfield 29, 3)) rfl
theorem s_81_72 {K : gC} : gOk K g_Ms mi_81 72 (ga_callV 2 29 0 75) := gs_callV gcls_2 (gce_X2_gongsToCome (by decide) (by decide)) gw_638 gw_639 gw_640 (by decide +kernel : decode mi_81.2.1 72 = .ok (.invokevirtual 208, 3)) rfl
theorem s_81_75 {K : gC} : gOk K g_Ms mi_81 75 (ga_iret) := gs_iret (by decide +kernel : decode mi_81.2.1 75 = .ok (.ireturn, 1)) rfl
theorem s_81_76 {K : gC} : gOk K g_Ms mi_81 76 (ga_aload 0 77) := gs_aload_n (by decide +kernel : decode mi_81.2.1 76 = .ok (.aload_n 0, 1)) rfl rfl
theorem s_81_77 {K : gC} : gOk K g_Ms mi_81 77 (ga_getR 6 3 80) := gs_getR gcls_6 (by decide) (by decide) gw_245 (by decide +kernel : decode mi_81.2.1 77 = .ok (.getfield 29, 3)) rfl
theorem s_81_80 {K : gC} : gOk K g_Ms mi_81 80 (ga_callV 2 30 0 83) := gs_callV gcls_2 (gce_X2_strikesInAll (by decide) (by decide)) gw_642 gw_643 gw_644 (by decide +kernel : decode mi_81.2.1 80 = .ok (.invokevirtual 212, 3)) rfl
theorem s_81_83 {K : gC} : gOk K g_Ms mi_81 83 (ga_iret) := gs_iret (by decide +kernel : decode mi_81.2.1 83 = .ok (.ireturn, 1)) rfl
theorem s_81_84 {K : gC} : gOk K g_Ms mi_81 84 (ga_aload 0 85) := gs_aload_n (by decide +kernel : decode mi_81.2.1 84 = .ok (.aload_n 0, 1)) rfl rfl
theorem s_81_85 {K : gC} : gOk K g_Ms mi_81 85 (ga_getR 6 6 88) := gs_getR gcls_6 (by decide) (by decide) gw_248 (by decide +kernel : decode mi_81.2.1 85 = .ok (.getfield 44, 3)) rfl
theorem s_81_88 {K : gC} : gOk K g_Ms mi_81 88 (ga_getI 3 2 91) := gs_getI gcls_3 (by decide) (by decide) gw_178 (by decide +kernel : decode mi_81.2.1 88 = .ok (.getfield 79, 3)) rfl
theorem s_81_91 {K : gC} : gOk K g_Ms mi_81 91 (ga_iret) := gs_iret (by decide +kernel : decode mi_81.2.1 91 = .ok (.ireturn, 1)) rfl
theorem s_81_92 {K : gC} : gOk K g_Ms mi_81 92 (ga_aload 0 93) := gs_aload_n (by decide +kernel : decode mi_81.2.1 92 = .ok (.aload_n 0, 1)) rfl rfl
theorem s_81_93 {K : gC} : gOk K g_Ms mi_81 93 (ga_getR 6 0 96) := gs_getR gcls_6 (by decide) (by decide) gw_242 (by decide +kernel : decode mi_81.2.1 93 = .ok (.getfield 12, 3)) rfl
theorem s_81_96 {K : gC} : gOk K g_Ms mi_81 96 (ga_getI 4 1 99) := gs_getI gcls_4 (by decide) (by decide) gw_69 (by decide +kernel : decode mi_81.2.1 96 = .ok (.getfield 55, 3)) rfl
theorem s_81_99 {K : gC} : gOk K g_Ms mi_81 99 (ga_iret) := gs_iret (by decide +kernel : decode mi_81.2.1 99 = .ok (.ireturn, 1)) rfl
theorem s_81_100 {K : gC} : gOk K g_Ms mi_81 100 (ga_push (.int (-3)) 102) := gs_bipush (by decide +kernel : decode mi_81.2.1 100 = .ok (.bipush (-3), 2)) (by decide) rfl
theorem s_81_102 {K : gC} : gOk K g_Ms mi_81 102 (ga_iret) := gs_iret (by decide +kernel : decode mi_81.2.1 102 = .ok (.ireturn, 1)) rfl
theorem ok_81 {K : gC} : ∀ e ∈ t_81, gOk K g_Ms mi_81 e.1 e.2 := by
  unfold t_81
  simp only [List.forall_mem_cons, List.not_mem_nil, false_implies, implies_true, and_true]
  exact ⟨s_81_0, s_81_1, s_81_44, s_81_45, s_81_48, s_81_51, s_81_52, s_81_53, s_81_56, s_81_59, s_81_60, s_81_61, s_81_64, s_81_67, s_81_68, s_81_69, s_81_72, s_81_75, s_81_76, s_81_77, s_81_80, s_81_83, s_81_84, s_81_85, s_81_88, s_81_91, s_81_92, s_81_93, s_81_96, s_81_99, s_81_100, s_81_102⟩
