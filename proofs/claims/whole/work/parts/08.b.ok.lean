theorem s_0_0 {K : gC} : gOk K g_Ms mi_0 0 (ga_aload 0 1) := gs_aload_n (by decide +kernel : decode mi_0.2.1 0 = .ok (.aload_n 0, 1)) rfl rfl
theorem s_0_1 {K : gC} : gOk K g_Ms mi_0 1 (ga_oinit 4) := gs_oinit gw_94 gw_59 gw_objc (by decide) (by decide) (by decide +kernel : decode mi_0.2.1 1 = .ok (.invokespecial 3, 3)) rfl
theorem s_0_4 {K : gC} : gOk K g_Ms mi_0 4 (ga_aload 0 5) := gs_aload_n (by decide +kernel : decode mi_0.2.1 4 = .ok (.aload_n 0, 1)) rfl rfl
theorem s_0_5 {K : gC} : gOk K g_Ms mi_0 5 (ga_push (.int 10) 7) := gs_bipush (by decide +kernel : decode mi_0.2.1 5 = .ok (.bipush 10, 2)) (by decide) rfl
theorem s_0_7 {K : gC} : gOk K g_Ms mi_0 7 (ga_newa 8 9) := gs_newaI gw_88 (by decide +kernel : decode mi_0.2.1 7 = .ok (.newarray .int, 2)) rfl
theorem s_0_9 {K : gC} : gOk K g_Ms mi_0 9 (ga_putR 0 0 12) := gs_putR gcls_0 (by decide) (by decide) (fun _ => ⟨rfl, rfl⟩) rfl rfl rfl gw_102 (by decide +kernel : decode mi_0.2.1 9 = .ok (.putfield 9, 3)) rfl
theorem s_0_12 {K : gC} : gOk K g_Ms mi_0 12 (ga_aload 0 13) := gs_aload_n (by decide +kernel : decode mi_0.2.1 12 = .ok (.aload_n 0, 1)) rfl rfl
theorem s_0_13 {K : gC} : gOk K g_Ms mi_0 13 (ga_push (.int 10) 15) := gs_bipush (by decide +kernel : decode mi_0.2.1 13 = .ok (.bipush 10, 2)) (by decide) rfl
theorem s_0_15 {K : gC} : gOk K g_Ms mi_0 15 (ga_newa 8 17) := gs_newaI gw_88 (by decide +kernel : decode mi_0.2.1 15 = .ok (.newarray .int, 2)) rfl
theorem s_0_17 {K : gC} : gOk K g_Ms mi_0 17 (ga_putR 0 1 20) := gs_putR gcls_0 (by decide) (by decide) (fun _ => ⟨rfl, rfl⟩) rfl rfl rfl gw_107 (by decide +kernel : decode mi_0.2.1 17 = .ok (.putfield 15, 3)) rfl
theorem s_0_20 {K : gC} : gOk K g_Ms mi_0 20 (ga_aload 0 21) := gs_aload_n (by decide +kernel : decode mi_0.2.1 20 = .ok (.aload_n 0, 1)) rfl rfl
theorem s_0_21 {K : gC} : gOk K g_Ms mi_0 21 (ga_push (.int 10) 23) := gs_bipush (by decide +kernel : decode mi_0.2.1 21 = .ok (.bipush 10, 2)) (by decide) rfl
theorem s_0_23 {K : gC} : gOk K g_Ms mi_0 23 (ga_newa 8 25) := gs_newaI gw_88 (by decide +kernel : decode mi_0.2.1 23 = .ok (.newarray .int, 2)) rfl
theorem s_0_25 {K : gC} : gOk K g_Ms mi_0 25 (ga_putR 0 2 28) := gs_putR gcls_0 (by decide) (by decide) (fun _ => ⟨rfl, rfl⟩) rfl rfl rfl gw_110 (by decide +kernel : decode mi_0.2.1 25 = .ok (.putfield 18, 3)) rfl
theorem s_0_28 {K : gC} : gOk K g_Ms mi_0 28 (ga_aload 0 29) := gs_aload_n (by decide +kernel : decode mi_0.2.1 28 = .ok (.aload_n 0, 1)) rfl rfl
theorem s_0_29 {K : gC} : gOk K g_Ms mi_0 29 (ga_push (.int 10) 31) := gs_bipush (by decide +kernel : decode mi_0.2.1 29 = .ok (.bipush 10, 2)) (by decide) rfl
theorem s_0_31 {K : gC} : gOk K g_Ms mi_0 31 (ga_newa 8 33) := gs_newaI gw_88 (by decide +kernel : decode mi_0.2.1 31 = .ok (.newarray .int, 2)) rfl
theorem s_0_33 {K : gC} : gOk K g_Ms mi_0 33 (ga_putR 0 3 36) := gs_putR gcls_0 (by decide) (by decide) (fun _ => ⟨rfl, rfl⟩) rfl rfl rfl gw_116 (by decide +kernel : decode mi_0.2.1 33 = .ok (.putfield 21, 3)) rfl
theorem s_0_36 {K : gC} : gOk K g_Ms mi_0 36 (ga_aload 0 37) := gs_aload_n (by decide +kernel : decode mi_0.2.1 36 = .ok (.aload_n 0, 1)) rfl rfl
theorem s_0_37 {K : gC} : gOk K g_Ms mi_0 37 (ga_push (.int 4) 38) := gs_iconst (by decide +kernel : decode mi_0.2.1 37 = .ok (.iconst 4, 1)) (by decide) rfl
theorem s_0_38 {K : gC} : gOk K g_Ms mi_0 38 (ga_callV 0 1 1 41) := gs_callV gcls_0 (gce_X0_found (by decide) (by decide)) gw_95 gw_96 gw_97 (by decide +kernel : decode mi_0.2.1 38 = .ok (.invokevirtual 24, 3)) rfl
theorem s_0_41 {K : gC} : gOk K g_Ms mi_0 41 (ga_vret) := gs_vret (by decide +kernel : decode mi_0.2.1 41 = .ok (.return_, 1)) rfl
theorem ok_0 {K : gC} : ∀ e ∈ t_0, gOk K g_Ms mi_0 e.1 e.2 := by
  unfold t_0
  simp only [List.forall_mem_cons, List.not_mem_nil, false_implies, implies_true, and_true]
  exact ⟨s_0_0, s_0_1, s_0_4, s_0_5, s_0_7, s_0_9, s_0_12, s_0_13, s_0_15, s_0_17, s_0_20, s_0_21, s_0_23, s_0_25, s_0_28, s_0_29, s_0_31, s_0_33, s_0_36, s_0_37, s_0_38, s_0_41⟩
theorem s_1_0 {K : gC} : gOk K g_Ms mi_1 0 (ga_aload 0 1) := gs_aload_n (by decide +kernel : decode mi_1.2.1 0 = .ok (.aload_n 0, 1)) rfl rfl
theorem s_1_1 {K : gC} : gOk K g_Ms mi_1 1 (ga_iload 1 2) := gs_iload_n (by decide +kernel : decode mi_1.2.1 1 = .ok (.iload_n 1, 1)) rfl rfl
theorem s_1_2 {K : gC} : gOk K g_Ms mi_1 2 (ga_putI 0 4 5) := gs_putI gcls_0 (by decide) (by decide) rfl rfl gw_119 (by decide +kernel : decode mi_1.2.1 2 = .ok (.putfield 28, 3)) rfl
theorem s_1_5 {K : gC} : gOk K g_Ms mi_1 5 (ga_aload 0 6) := gs_aload_n (by decide +kernel : decode mi_1.2.1 5 = .ok (.aload_n 0, 1)) rfl rfl
theorem s_1_6 {K : gC} : gOk K g_Ms mi_1 6 (ga_getR 0 0 9) := gs_getR gcls_0 (by decide) (by decide) gw_102 (by decide +kernel : decode mi_1.2.1 6 = .ok (.getfield 9, 3)) rfl
theorem s_1_9 {K : gC} : gOk K g_Ms mi_1 9 (ga_push (.int (-1)) 10) := gs_iconst (by decide +kernel : decode mi_1.2.1 9 = .ok (.iconst (-1), 1)) (by decide) rfl
theorem s_1_10 {K : gC} : gOk K g_Ms mi_1 10 (ga_call 140 2 13) := gs_callS (gce_J7_fill_53178 (by decide) (by decide)) gw_99 gw_100 (by decide +kernel : decode mi_1.2.1 10 = .ok (.invokestatic 32, 3)) rfl
theorem s_1_13 {K : gC} : gOk K g_Ms mi_1 13 (ga_aload 0 14) := gs_aload_n (by decide +kernel : decode mi_1.2.1 13 = .ok (.aload_n 0, 1)) rfl rfl
theorem s_1_14 {K : gC} : gOk K g_Ms mi_1 14 (ga_getR 0 1 17) := gs_getR gcls_0 (by decide) (by decide) gw_107 (by decide +kernel : decode mi_1.2.1 14 = .ok (.getfield 15, 3)) rfl
theorem s_1_17 {K : gC} : gOk K g_Ms mi_1 17 (ga_push (.int 0) 18) := gs_iconst (by decide +kernel : decode mi_1.2.1 17 = .ok (.iconst 0, 1)) (by decide) rfl
theorem s_1_18 {K : gC} : gOk K g_Ms mi_1 18 (ga_call 140 2 21) := gs_callS (gce_J7_fill_53178 (by decide) (by decide)) gw_99 gw_100 (by decide +kernel : decode mi_1.2.1 18 = .ok (.invokestatic 32, 3)) rfl
theorem s_1_21 {K : gC} : gOk K g_Ms mi_1 21 (ga_aload 0 22) := gs_aload_n (by decide +kernel : decode mi_1.2.1 21 = .ok (.aload_n 0, 1)) rfl rfl
theorem s_1_22 {K : gC} : gOk K g_Ms mi_1 22 (ga_getR 0 2 25) := gs_getR gcls_0 (by decide) (by decide) gw_110 (by decide +kernel : decode mi_1.2.1 22 = .ok (.getfield 18, 3)) rfl
theorem s_1_25 {K : gC} : gOk K g_Ms mi_1 25 (ga_push (.int 0) 26) := gs_iconst (by decide +kernel : decode mi_1.2.1 25 = .ok (.iconst 0, 1)) (by decide) rfl
theorem s_1_26 {K : gC} : gOk K g_Ms mi_1 26 (ga_call 140 2 29) := gs_callS (gce_J7_fill_53178 (by decide) (by decide)) gw_99 gw_100 (by decide +kernel : decode mi_1.2.1 26 = .ok (.invokestatic 32, 3)) rfl
theorem s_1_29 {K : gC} : gOk K g_Ms mi_1 29 (ga_aload 0 30) := gs_aload_n (by decide +kernel : decode mi_1.2.1 29 = .ok (.aload_n 0, 1)) rfl rfl
theorem s_1_30 {K : gC} : gOk K g_Ms mi_1 30 (ga_getR 0 3 33) := gs_getR gcls_0 (by decide) (by decide) gw_116 (by decide +kernel : decode mi_1.2.1 30 = .ok (.getfield 21, 3)) rfl
theorem s_1_33 {K : gC} : gOk K g_Ms mi_1 33 (ga_push (.int 1) 34) := gs_iconst (by decide +kernel : decode mi_1.2.1 33 = .ok (.iconst 1, 1)) (by decide) rfl
theorem s_1_34 {K : gC} : gOk K g_Ms mi_1 34 (ga_call 140 2 37) := gs_callS (gce_J7_fill_53178 (by decide) (by decide)) gw_99 gw_100 (by decide +kernel : decode mi_1.2.1 34 = .ok (.invokestatic 32, 3)) rfl
theorem s_1_37 {K : gC} : gOk K g_Ms mi_1 37 (ga_aload 0 38) := gs_aload_n (by decide +kernel : decode mi_1.2.1 37 = .ok (.aload_n 0, 1)) rfl rfl
theorem s_1_38 {K : gC} : gOk K g_Ms mi_1 38 (ga_push (.int 0) 39) := gs_iconst (by decide +kernel : decode mi_1.2.1 38 = .ok (.iconst 0, 1)) (by decide) rfl
theorem s_1_39 {K : gC} : gOk K g_Ms mi_1 39 (ga_putI 0 5 42) := gs_putI gcls_0 (by decide) (by decide) rfl rfl gw_124 (by decide +kernel : decode mi_1.2.1 39 = .ok (.putfield 38, 3)) rfl
theorem s_1_42 {K : gC} : gOk K g_Ms mi_1 42 (ga_vret) := gs_vret (by decide +kernel : decode mi_1.2.1 42 = .ok (.return_, 1)) rfl
theorem ok_1 {K : gC} : ∀ e ∈ t_1, gOk K g_Ms mi_1 e.1 e.2 := by
  unfold t_1
  simp only [List.forall_mem_cons, List.not_mem_nil, false_implies, implies_true, and_true]
  exact ⟨s_1_0, s_1_1, s_1_2, s_1_5, s_1_6, s_1_9, s_1_10, s_1_13, s_1_14, s_1_17, s_1_18, s_1_21, s_1_22, s_1_25, s_1_26, s_1_29, s_1_30, s_1_33, s_1_34, s_1_37, s_1_38, s_1_39, s_1_42⟩
theorem s_2_0 {K : gC} : gOk K g_Ms mi_2 0 (ga_aload 0 1) := gs_aload_n (by decide +kernel : decode mi_2.2.1 0 = .ok (.aload_n 0, 1)) rfl rfl
theorem s_2_1 {K : gC} : gOk K g_Ms mi_2 1 (ga_aload 1 2) := gs_aload_n (by decide +kernel : decode mi_2.2.1 1 = .ok (.aload_n 1, 1)) rfl rfl
theorem s_2_2 {K : gC} : gOk K g_Ms mi_2 2 (ga_getI 0 4 5) := gs_getI gcls_0 (by decide) (by decide) gw_119 (by decide +kernel : decode mi_2.2.1 2 = .ok (.getfield 28, 3)) rfl
theorem s_2_5 {K : gC} : gOk K g_Ms mi_2 5 (ga_putI 0 4 8) := gs_putI gcls_0 (by decide) (by decide) rfl rfl gw_119 (by decide +kernel : decode mi_2.2.1 5 = .ok (.putfield 28, 3)) rfl
theorem s_2_8 {K : gC} : gOk K g_Ms mi_2 8 (ga_aload 0 9) := gs_aload_n (by decide +kernel : decode mi_2.2.1 8 = .ok (.aload_n 0, 1)) rfl rfl
theorem s_2_9 {K : gC} : gOk K g_Ms mi_2 9 (ga_aload 1 10) := gs_aload_n (by decide +kernel : decode mi_2.2.1 9 = .ok (.aload_n 1, 1)) rfl rfl
theorem s_2_10 {K : gC} : gOk K g_Ms mi_2 10 (ga_getI 0 5 13) := gs_getI gcls_0 (by decide) (by decide) gw_124 (by decide +kernel : decode mi_2.2.1 10 = .ok (.getfield 38, 3)) rfl
theorem s_2_13 {K : gC} : gOk K g_Ms mi_2 13 (ga_putI 0 5 16) := gs_putI gcls_0 (by decide) (by decide) rfl rfl gw_124 (by decide +kernel : decode mi_2.2.1 13 = .ok (.putfield 38, 3)) rfl
theorem s_2_16 {K : gC} : gOk K g_Ms mi_2 16 (ga_aload 1 17) := gs_aload_n (by decide +kernel : decode mi_2.2.1 16 = .ok (.aload_n 1, 1)) rfl rfl
theorem s_2_17 {K : gC} : gOk K g_Ms mi_2 17 (ga_getR 0 0 20) := gs_getR gcls_0 (by decide) (by decide) gw_102 (by decide +kernel : decode mi_2.2.1 17 = .ok (.getfield 9, 3)) rfl
theorem s_2_20 {K : gC} : gOk K g_Ms mi_2 20 (ga_push (.int 0) 21) := gs_iconst (by decide +kernel : decode mi_2.2.1 20 = .ok (.iconst 0, 1)) (by decide) rfl
theorem s_2_21 {K : gC} : gOk K g_Ms mi_2 21 (ga_aload 0 22) := gs_aload_n (by decide +kernel : decode mi_2.2.1 21 = .ok (.aload_n 0, 1)) rfl rfl
theorem s_2_22 {K : gC} : gOk K g_Ms mi_2 22 (ga_getR 0 0 25) := gs_getR gcls_0 (by decide) (by decide) gw_102 (by decide +kernel : decode mi_2.2.1 22 = .ok (.getfield 9, 3)) rfl
theorem s_2_25 {K : gC} : gOk K g_Ms mi_2 25 (ga_push (.int 0) 26) := gs_iconst (by decide +kernel : decode mi_2.2.1 25 = .ok (.iconst 0, 1)) (by decide) rfl
theorem s_2_26 {K : gC} : gOk K g_Ms mi_2 26 (ga_push (.int 10) 28) := gs_bipush (by decide +kernel : decode mi_2.2.1 26 = .ok (.bipush 10, 2)) (by decide) rfl
theorem s_2_28 {K : gC} : gOk K g_Ms mi_2 28 (ga_copy 31) := gs_copy gw_288 gw_290 gw_289 gw_46 (by decide) (by decide) (by decide +kernel : decode mi_2.2.1 28 = .ok (.invokestatic 41, 3)) rfl
theorem s_2_31 {K : gC} : gOk K g_Ms mi_2 31 (ga_aload 1 32) := gs_aload_n (by decide +kernel : decode mi_2.2.1 31 = .ok (.aload_n 1, 1)) rfl rfl
theorem s_2_32 {K : gC} : gOk K g_Ms mi_2 32 (ga_getR 0 1 35) := gs_getR gcls_0 (by decide) (by decide) gw_107 (by decide +kernel : decode mi_2.2.1 32 = .ok (.getfield 15, 3)) rfl
theorem s_2_35 {K : gC} : gOk K g_Ms mi_2 35 (ga_push (.int 0) 36) := gs_iconst (by decide +kernel : decode mi_2.2.1 35 = .ok (.iconst 0, 1)) (by decide) rfl
theorem s_2_36 {K : gC} : gOk K g_Ms mi_2 36 (ga_aload 0 37) := gs_aload_n (by decide +kernel : decode mi_2.2.1 36 = .ok (.aload_n 0, 1)) rfl rfl
theorem s_2_37 {K : gC} : gOk K g_Ms mi_2 37 (ga_getR 0 1 40) := gs_getR gcls_0 (by decide) (by decide) gw_107 (by decide +kernel : decode mi_2.2.1 37 = .ok (.getfield 15, 3)) rfl
theorem s_2_40 {K : gC} : gOk K g_Ms mi_2 40 (ga_push (.int 0) 41) := gs_iconst (by decide +kernel : decode mi_2.2.1 40 = .ok (.iconst 0, 1)) (by decide) rfl
theorem s_2_41 {K : gC} : gOk K g_Ms mi_2 41 (ga_push (.int 10) 43) := gs_bipush (by decide +kernel : decode mi_2.2.1 41 = .ok (.bipush 10, 2)) (by decide) rfl
theorem s_2_43 {K : gC} : gOk K g_Ms mi_2 43 (ga_copy 46) := gs_copy gw_288 gw_290 gw_289 gw_46 (by decide) (by decide) (by decide +kernel : decode mi_2.2.1 43 = .ok (.invokestatic 41, 3)) rfl
theorem s_2_46 {K : gC} : gOk K g_Ms mi_2 46 (ga_aload 1 47) := gs_aload_n (by decide +kernel : decode mi_2.2.1 46 = .ok (.aload_n 1, 1)) rfl rfl
theorem s_2_47 {K : gC} : gOk K g_Ms mi_2 47 (ga_getR 0 2 50) := gs_getR gcls_0 (by decide) (by decide) gw_110 (by decide +kernel : decode mi_2.2.1 47 = .ok (.getfield 18, 3)) rfl
theorem s_2_50 {K : gC} : gOk K g_Ms mi_2 50 (ga_push (.int 0) 51) := gs_iconst (by decide +kernel : decode mi_2.2.1 50 = .ok (.iconst 0, 1)) (by decide) rfl
theorem s_2_51 {K : gC} : gOk K g_Ms mi_2 51 (ga_aload 0 52) := gs_aload_n (by decide +kernel : decode mi_2.2.1 51 = .ok (.aload_n 0, 1)) rfl rfl
theorem s_2_52 {K : gC} : gOk K g_Ms mi_2 52 (ga_getR 0 2 55) := gs_getR gcls_0 (by decide) (by decide) gw_110 (by decide +kernel : decode mi_2.2.1 52 = .ok (.getfield 18, 3)) rfl
theorem s_2_55 {K : gC} : gOk K g_Ms mi_2 55 (ga_push (.int 0) 56) := gs_iconst (by decide +kernel : decode mi_2.2.1 55 = .ok (.iconst 0, 1)) (by decide) rfl
theorem s_2_56 {K : gC} : gOk K g_Ms mi_2 56 (ga_push (.int 10) 58) := gs_bipush (by decide +kernel : decode mi_2.2.1 56 = .ok (.bipush 10, 2)) (by decide) rfl
theorem s_2_58 {K : gC} : gOk K g_Ms mi_2 58 (ga_copy 61) := gs_copy gw_288 gw_290 gw_289 gw_46 (by decide) (by decide) (by decide +kernel : decode mi_2.2.1 58 = .ok (.invokestatic 41, 3)) rfl
theorem s_2_61 {K : gC} : gOk K g_Ms mi_2 61 (ga_aload 1 62) := gs_aload_n (by decide +kernel : decode mi_2.2.1 61 = .ok (.aload_n 1, 1)) rfl rfl
theorem s_2_62 {K : gC} : gOk K g_Ms mi_2 62 (ga_getR 0 3 65) := gs_getR gcls_0 (by decide) (by decide) gw_116 (by decide +kernel : decode mi_2.2.1 62 = .ok (.getfield 21, 3)) rfl
theorem s_2_65 {K : gC} : gOk K g_Ms mi_2 65 (ga_push (.int 0) 66) := gs_iconst (by decide +kernel : decode mi_2.2.1 65 = .ok (.iconst 0, 1)) (by decide) rfl
theorem s_2_66 {K : gC} : gOk K g_Ms mi_2 66 (ga_aload 0 67) := gs_aload_n (by decide +kernel : decode mi_2.2.1 66 = .ok (.aload_n 0, 1)) rfl rfl
theorem s_2_67 {K : gC} : gOk K g_Ms mi_2 67 (ga_getR 0 3 70) := gs_getR gcls_0 (by decide) (by decide) gw_116 (by decide +kernel : decode mi_2.2.1 67 = .ok (.getfield 21, 3)) rfl
theorem s_2_70 {K : gC} : gOk K g_Ms mi_2 70 (ga_push (.int 0) 71) := gs_iconst (by decide +kernel : decode mi_2.2.1 70 = .ok (.iconst 0, 1)) (by decide) rfl
theorem s_2_71 {K : gC} : gOk K g_Ms mi_2 71 (ga_push (.int 10) 73) := gs_bipush (by decide +kernel : decode mi_2.2.1 71 = .ok (.bipush 10, 2)) (by decide) rfl
theorem s_2_73 {K : gC} : gOk K g_Ms mi_2 73 (ga_copy 76) := gs_copy gw_288 gw_290 gw_289 gw_46 (by decide) (by decide) (by decide +kernel : decode mi_2.2.1 73 = .ok (.invokestatic 41, 3)) rfl
theorem s_2_76 {K : gC} : gOk K g_Ms mi_2 76 (ga_vret) := gs_vret (by decide +kernel : decode mi_2.2.1 76 = .ok (.return_, 1)) rfl
theorem ok_2 {K : gC} : ∀ e ∈ t_2, gOk K g_Ms mi_2 e.1 e.2 := by
  unfold t_2
  simp only [List.forall_mem_cons, List.not_mem_nil, false_implies, implies_true, and_true]
  exact ⟨s_2_0, s_2_1, s_2_2, s_2_5, s_2_8, s_2_9, s_2_10, s_2_13, s_2_16, s_2_17, s_2_20, s_2_21, s_2_22, s_2_25, s_2_26, s_2_28, s_2_31, s_2_32, s_2_35, s_2_36, s_2_37, s_2_40, s_2_41, s_2_43, s_2_46, s_2_47, s_2_50, s_2_51, s_2_52, s_2_55, s_2_56, s_2_58, s_2_61, s_2_62, s_2_65, s_2_66, s_2_67, s_2_70, s_2_71, s_2_73, s_2_76⟩
theorem s_3_0 {K : gC} : gOk K g_Ms mi_3 0 (ga_iload 1 1) := gs_iload_n (by decide +kernel : decode mi_3.2.1 0 = .ok (.iload_n 1, 1)) rfl rfl
theorem s_3_1 {K : gC} : gOk K g_Ms mi_3 1 (ga_if (fun x => decide (x < 0)) 16 4) := gs_if_lt (by decide +kernel : decode mi_3.2.1 1 = .ok (.ifCond .lt 15, 3)) (by decide) rfl
theorem s_3_4 {K : gC} : gOk K g_Ms mi_3 4 (ga_iload 1 5) := gs_iload_n (by decide +kernel : decode mi_3.2.1 4 = .ok (.iload_n 1, 1)) rfl rfl
theorem s_3_5 {K : gC} : gOk K g_Ms mi_3 5 (ga_aload 0 6) := gs_aload_n (by decide +kernel : decode mi_3.2.1 5 = .ok (.aload_n 0, 1)) rfl rfl
theorem s_3_6 {K : gC} : gOk K g_Ms mi_3 6 (ga_getI 0 4 9) := gs_getI gcls_0 (by decide) (by decide) gw_119 (by decide +kernel : decode mi_3.2.1 6 = .ok (.getfield 28, 3)) rfl
theorem s_3_9 {K : gC} : gOk K g_Ms mi_3 9 (ga_cmp (fun x y => decide (y ≤ x)) 16 12) := gs_cmp_ge (by decide +kernel : decode mi_3.2.1 9 = .ok (.if_icmp .ge 7, 3)) (by decide) rfl
theorem s_3_12 {K : gC} : gOk K g_Ms mi_3 12 (ga_push (.int 1) 13) := gs_iconst (by decide +kernel : decode mi_3.2.1 12 = .ok (.iconst 1, 1)) (by decide) rfl
theorem s_3_13 {K : gC} : gOk K g_Ms mi_3 13 (ga_goto 17) := gs_goto (by decide +kernel : decode mi_3.2.1 13 = .ok (.goto 4, 3)) (by decide)
theorem s_3_16 {K : gC} : gOk K g_Ms mi_3 16 (ga_push (.int 0) 17) := gs_iconst (by decide +kernel : decode mi_3.2.1 16 = .ok (.iconst 0, 1)) (by decide) rfl
theorem s_3_17 {K : gC} : gOk K g_Ms mi_3 17 (ga_zret) := gs_zret (by decide +kernel : decode mi_3.2.1 17 = .ok (.ireturn, 1)) rfl rfl rfl
theorem ok_3 {K : gC} : ∀ e ∈ t_3, gOk K g_Ms mi_3 e.1 e.2 := by
  unfold t_3
  simp only [List.forall_mem_cons, List.not_mem_nil, false_implies, implies_true, and_true]
  exact ⟨s_3_0, s_3_1, s_3_4, s_3_5, s_3_6, s_3_9, s_3_12, s_3_13, s_3_16, s_3_17⟩
theorem s_4_0 {K : gC} : gOk K g_Ms mi_4 0 (ga_iload 1 1) := gs_iload_n (by decide +kernel : decode mi_4.2.1 0 = .ok (.iload_n 1, 1)) rfl rfl
theorem s_4_1 {K : gC} : gOk K g_Ms mi_4 1 (ga_if (fun x => decide (x < 0)) 56 4) := gs_if_lt (by decide +kernel : decode mi_4.2.1 1 = .ok (.ifCond .lt 55, 3)) (by decide) rfl
theorem s_4_4 {K : gC} : gOk K g_Ms mi_4 4 (ga_iload 1 5) := gs_iload_n (by decide +kernel : decode mi_4.2.1 4 = .ok (.iload_n 1, 1)) rfl rfl
theorem s_4_5 {K : gC} : gOk K g_Ms mi_4 5 (ga_aload 0 6) := gs_aload_n (by decide +kernel : decode mi_4.2.1 5 = .ok (.aload_n 0, 1)) rfl rfl
theorem s_4_6 {K : gC} : gOk K g_Ms mi_4 6 (ga_getI 0 4 9) := gs_getI gcls_0 (by decide) (by decide) gw_119 (by decide +kernel : decode mi_4.2.1 6 = .ok (.getfield 28, 3)) rfl
theorem s_4_9 {K : gC} : gOk K g_Ms mi_4 9 (ga_cmp (fun x y => decide (y ≤ x)) 56 12) := gs_cmp_ge (by decide +kernel : decode mi_4.2.1 9 = .ok (.if_icmp .ge 47, 3)) (by decide) rfl
theorem s_4_12 {K : gC} : gOk K g_Ms mi_4 12 (ga_aload 0 13) := gs_aload_n (by decide +kernel : decode mi_4.2.1 12 = .ok (.aload_n 0, 1)) rfl rfl
theorem s_4_13 {K : gC} : gOk K g_Ms mi_4 13 (ga_getR 0 0 16) := gs_getR gcls_0 (by decide) (by decide) gw_102 (by decide +kernel : decode mi_4.2.1 13 = .ok (.getfield 9, 3)) rfl
theorem s_4_16 {K : gC} : gOk K g_Ms mi_4 16 (ga_iload 1 17) := gs_iload_n (by decide +kernel : decode mi_4.2.1 16 = .ok (.iload_n 1, 1)) rfl rfl
theorem s_4_17 {K : gC} : gOk K g_Ms mi_4 17 (ga_iald 18) := gs_iald (by decide +kernel : decode mi_4.2.1 17 = .ok (.iaload, 1)) rfl
theorem s_4_18 {K : gC} : gOk K g_Ms mi_4 18 (ga_push (.int (-1)) 19) := gs_iconst (by decide +kernel : decode mi_4.2.1 18 = .ok (.iconst (-1), 1)) (by decide) rfl
theorem s_4_19 {K : gC} : gOk K g_Ms mi_4 19 (ga_cmp (fun x y => decide (x = y)) 56 22) := gs_cmp_eq (by decide +kernel : decode mi_4.2.1 19 = .ok (.if_icmp .eq 37, 3)) (by decide) rfl
theorem s_4_22 {K : gC} : gOk K g_Ms mi_4 22 (ga_aload 0 23) := gs_aload_n (by decide +kernel : decode mi_4.2.1 22 = .ok (.aload_n 0, 1)) rfl rfl
theorem s_4_23 {K : gC} : gOk K g_Ms mi_4 23 (ga_getR 0 2 26) := gs_getR gcls_0 (by decide) (by decide) gw_110 (by decide +kernel : decode mi_4.2.1 23 = .ok (.getfield 18, 3)) rfl
theorem s_4_26 {K : gC} : gOk K g_Ms mi_4 26 (ga_iload 1 27) := gs_iload_n (by decide +kernel : decode mi_4.2.1 26 = .ok (.iload_n 1, 1)) rfl rfl
theorem s_4_27 {K : gC} : gOk K g_Ms mi_4 27 (ga_iald 28) := gs_iald (by decide +kernel : decode mi_4.2.1 27 = .ok (.iaload, 1)) rfl
theorem s_4_28 {K : gC} : gOk K g_Ms mi_4 28 (ga_push (.int 1) 29) := gs_iconst (by decide +kernel : decode mi_4.2.1 28 = .ok (.iconst 1, 1)) (by decide) rfl
theorem s_4_29 {K : gC} : gOk K g_Ms mi_4 29 (ga_cmp (fun x y => decide (x = y)) 56 32) := gs_cmp_eq (by decide +kernel : decode mi_4.2.1 29 = .ok (.if_icmp .eq 27, 3)) (by decide) rfl
theorem s_4_32 {K : gC} : gOk K g_Ms mi_4 32 (ga_aload 0 33) := gs_aload_n (by decide +kernel : decode mi_4.2.1 32 = .ok (.aload_n 0, 1)) rfl rfl
theorem s_4_33 {K : gC} : gOk K g_Ms mi_4 33 (ga_getR 0 1 36) := gs_getR gcls_0 (by decide) (by decide) gw_107 (by decide +kernel : decode mi_4.2.1 33 = .ok (.getfield 15, 3)) rfl
theorem s_4_36 {K : gC} : gOk K g_Ms mi_4 36 (ga_iload 1 37) := gs_iload_n (by decide +kernel : decode mi_4.2.1 36 = .ok (.iload_n 1, 1)) rfl rfl
theorem s_4_37 {K : gC} : gOk K g_Ms mi_4 37 (ga_iald 38) := gs_iald (by decide +kernel : decode mi_4.2.1 37 = .ok (.iaload, 1)) rfl
theorem s_4_38 {K : gC} : gOk K g_Ms mi_4 38 (ga_iload 2 39) := gs_iload_n (by decide +kernel : decode mi_4.2.1 38 = .ok (.iload_n 2, 1)) rfl rfl
theorem s_4_39 {K : gC} : gOk K g_Ms mi_4 39 (ga_push (.int 1) 40) := gs_iconst (by decide +kernel : decode mi_4.2.1 39 = .ok (.iconst 1, 1)) (by decide) rfl
theorem s_4_40 {K : gC} : gOk K g_Ms mi_4 40 (ga_cmp (fun x y => decide (¬ x = y)) 47 43) := gs_cmp_ne (by decide +kernel : decode mi_4.2.1 40 = .ok (.if_icmp .ne 7, 3)) (by decide) rfl
theorem s_4_43 {K : gC} : gOk K g_Ms mi_4 43 (ga_push (.int 4) 44) := gs_iconst (by decide +kernel : decode mi_4.2.1 43 = .ok (.iconst 4, 1)) (by decide) rfl
theorem s_4_44 {K : gC} : gOk K g_Ms mi_4 44 (ga_goto 49) := gs_goto (by decide +kernel : decode mi_4.2.1 44 = .ok (.goto 5, 3)) (by decide)
theorem s_4_47 {K : gC} : gOk K g_Ms mi_4 47 (ga_push (.int 9) 49) := gs_bipush (by decide +kernel : decode mi_4.2.1 47 = .ok (.bipush 9, 2)) (by decide) rfl
theorem s_4_49 {K : gC} : gOk K g_Ms mi_4 49 (ga_cmp (fun x y => decide (y < x)) 56 52) := gs_cmp_gt (by decide +kernel : decode mi_4.2.1 49 = .ok (.if_icmp .gt 7, 3)) (by decide) rfl
theorem s_4_52 {K : gC} : gOk K g_Ms mi_4 52 (ga_push (.int 1) 53) := gs_iconst (by decide +kernel : decode mi_4.2.1 52 = .ok (.iconst 1, 1)) (by decide) rfl
theorem s_4_53 {K : gC} : gOk K g_Ms mi_4 53 (ga_goto 57) := gs_goto (by decide +kernel : decode mi_4.2.1 53 = .ok (.goto 4, 3)) (by decide)
theorem s_4_56 {K : gC} : gOk K g_Ms mi_4 56 (ga_push (.int 0) 57) := gs_iconst (by decide +kernel : decode mi_4.2.1 56 = .ok (.iconst 0, 1)) (by decide) rfl
theorem s_4_57 {K : gC} : gOk K g_Ms mi_4 57 (ga_zret) := gs_zret (by decide +kernel : decode mi_4.2.1 57 = .ok (.ireturn, 1)) rfl rfl rfl
theorem ok_4 {K : gC} : ∀ e ∈ t_4, gOk K g_Ms mi_4 e.1 e.2 := by
  unfold t_4
  simp only [List.forall_mem_cons, List.not_mem_nil, false_implies, implies_true, and_true]
  exact ⟨s_4_0, s_4_1, s_4_4, s_4_5, s_4_6, s_4_9, s_4_12, s_4_13, s_4_16, s_4_17, s_4_18, s_4_19, s_4_22, s_4_23, s_4_26, s_4_27, s_4_28, s_4_29, s_4_32, s_4_33, s_4_36, s_4_37, s_4_38, s_4_39, s_4_40, s_4_43, s_4_44, s_4_47, s_4_49, s_4_52, s_4_53, s_4_56, s_4_57⟩
theorem s_5_0 {K : gC} : gOk K g_Ms mi_5 0 (ga_aload 0 1) := gs_aload_n (by decide +kernel : decode mi_5.2.1 0 = .ok (.aload_n 0, 1)) rfl rfl
theorem s_5_1 {K : gC} : gOk K g_Ms mi_5 1 (ga_getR 0 2 4) := gs_getR gcls_0 (by decide) (by decide) gw_110 (by decide +kernel : decode mi_5.2.1 1 = .ok (.getfield 18, 3)) rfl
theorem s_5_4 {K : gC} : gOk K g_Ms mi_5 4 (ga_iload 1 5) := gs_iload_n (by decide +kernel : decode mi_5.2.1 4 = .ok (.iload_n 1, 1)) rfl rfl
theorem s_5_5 {K : gC} : gOk K g_Ms mi_5 5 (ga_iald 6) := gs_iald (by decide +kernel : decode mi_5.2.1 5 = .ok (.iaload, 1)) rfl
theorem s_5_6 {K : gC} : gOk K g_Ms mi_5 6 (ga_push (.int 2) 7) := gs_iconst (by decide +kernel : decode mi_5.2.1 6 = .ok (.iconst 2, 1)) (by decide) rfl
theorem s_5_7 {K : gC} : gOk K g_Ms mi_5 7 (ga_cmp (fun x y => decide (¬ x = y)) 21 10) := gs_cmp_ne (by decide +kernel : decode mi_5.2.1 7 = .ok (.if_icmp .ne 14, 3)) (by decide) rfl
theorem s_5_10 {K : gC} : gOk K g_Ms mi_5 10 (ga_push (.int 2) 11) := gs_iconst (by decide +kernel : decode mi_5.2.1 10 = .ok (.iconst 2, 1)) (by decide) rfl
theorem s_5_11 {K : gC} : gOk K g_Ms mi_5 11 (ga_aload 0 12) := gs_aload_n (by decide +kernel : decode mi_5.2.1 11 = .ok (.aload_n 0, 1)) rfl rfl
theorem s_5_12 {K : gC} : gOk K g_Ms mi_5 12 (ga_getR 0 3 15) := gs_getR gcls_0 (by decide) (by decide) gw_116 (by decide +kernel : decode mi_5.2.1 12 = .ok (.getfield 21, 3)) rfl
theorem s_5_15 {K : gC} : gOk K g_Ms mi_5 15 (ga_iload 1 16) := gs_iload_n (by decide +kernel : decode mi_5.2.1 15 = .ok (.iload_n 1, 1)) rfl rfl
theorem s_5_16 {K : gC} : gOk K g_Ms mi_5 16 (ga_iald 17) := gs_iald (by decide +kernel : decode mi_5.2.1 16 = .ok (.iaload, 1)) rfl
theorem s_5_17 {K : gC} : gOk K g_Ms mi_5 17 (ga_bin (fun x y => x * y) 18) := gs_imul (by decide +kernel : decode mi_5.2.1 17 = .ok (.imul, 1)) rfl
theorem s_5_18 {K : gC} : gOk K g_Ms mi_5 18 (ga_goto 27) := gs_goto (by decide +kernel : decode mi_5.2.1 18 = .ok (.goto 9, 3)) (by decide)
theorem s_5_21 {K : gC} : gOk K g_Ms mi_5 21 (ga_aload 0 22) := gs_aload_n (by decide +kernel : decode mi_5.2.1 21 = .ok (.aload_n 0, 1)) rfl rfl
theorem s_5_22 {K : gC} : gOk K g_Ms mi_5 22 (ga_getR 0 3 25) := gs_getR gcls_0 (by decide) (by decide) gw_116 (by decide +kernel : decode mi_5.2.1 22 = .ok (.getfield 21, 3)) rfl
theorem s_5_25 {K : gC} : gOk K g_Ms mi_5 25 (ga_iload 1 26) := gs_iload_n (by decide +kernel : decode mi_5.2.1 25 = .ok (.iload_n 1, 1)) rfl rfl
theorem s_5_26 {K : gC} : gOk K g_Ms mi_5 26 (ga_iald 27) := gs_iald (by decide +kernel : decode mi_5.2.1 26 = .ok (.iaload, 1)) rfl
theorem s_5_27 {K : gC} : gOk K g_Ms mi_5 27 (ga_istore 3 28) := gs_istore_n (by decide +kernel : decode mi_5.2.1 27 = .ok (.istore_n 3, 1)) rfl rfl
theorem s_5_28 {K : gC} : gOk K g_Ms mi_5 28 (ga_iload 2 29) := gs_iload_n (by decide +kernel : decode mi_5.2.1 28 = .ok (.iload_n 2, 1)) rfl rfl
theorem s_5_29 {K : gC} : gOk K g_Ms mi_5 29 (ga_push (.int 2) 30) := gs_iconst (by decide +kernel : decode mi_5.2.1 29 = .ok (.iconst 2, 1)) (by decide) rfl
theorem s_5_30 {K : gC} : gOk K g_Ms mi_5 30 (ga_cmp (fun x y => decide (¬ x = y)) 39 33) := gs_cmp_ne (by decide +kernel : decode mi_5.2.1 30 = .ok (.if_icmp .ne 9, 3)) (by decide) rfl
theorem s_5_33 {K : gC} : gOk K g_Ms mi_5 33 (ga_iload 3 34) := gs_iload_n (by decide +kernel : decode mi_5.2.1 33 = .ok (.iload_n 3, 1)) rfl rfl
theorem s_5_34 {K : gC} : gOk K g_Ms mi_5 34 (ga_push (.int 1) 35) := gs_iconst (by decide +kernel : decode mi_5.2.1 34 = .ok (.iconst 1, 1)) (by decide) rfl
theorem s_5_35 {K : gC} : gOk K g_Ms mi_5 35 (ga_bin (fun x y => x + y) 36) := gs_iadd (by decide +kernel : decode mi_5.2.1 35 = .ok (.iadd, 1)) rfl
theorem s_5_36 {K : gC} : gOk K g_Ms mi_5 36 (ga_goto 40) := gs_goto (by decide +kernel : decode mi_5.2.1 36 = .ok (.goto 4, 3)) (by decide)
theorem s_5_39 {K : gC} : gOk K g_Ms mi_5 39 (ga_iload 3 40) := gs_iload_n (by decide +kernel : decode mi_5.2.1 39 = .ok (.iload_n 3, 1)) rfl rfl
theorem s_5_40 {K : gC} : gOk K g_Ms mi_5 40 (ga_iret) := gs_iret (by decide +kernel : decode mi_5.2.1 40 = .ok (.ireturn, 1)) rfl
theorem ok_5 {K : gC} : ∀ e ∈ t_5, gOk K g_Ms mi_5 e.1 e.2 := by
  unfold t_5
  simp only [List.forall_mem_cons, List.not_mem_nil, false_implies, implies_true, and_true]
  exact ⟨s_5_0, s_5_1, s_5_4, s_5_5, s_5_6, s_5_7, s_5_10, s_5_11, s_5_12, s_5_15, s_5_16, s_5_17, s_5_18, s_5_21, s_5_22, s_5_25, s_5_26, s_5_27, s_5_28, s_5_29, s_5_30, s_5_33, s_5_34, s_5_35, s_5_36, s_5_39, s_5_40⟩
theorem s_6_0 {K : gC} : gOk K g_Ms mi_6 0 (ga_aload 0 1) := gs_aload_n (by decide +kernel : decode mi_6.2.1 0 = .ok (.aload_n 0, 1)) rfl rfl
theorem s_6_1 {K : gC} : gOk K g_Ms mi_6 1 (ga_getR 0 2 4) := gs_getR gcls_0 (by decide) (by decide) gw_110 (by decide +kernel : decode mi_6.2.1 1 = .ok (.getfield 18, 3)) rfl
theorem s_6_4 {K : gC} : gOk K g_Ms mi_6 4 (ga_iload 1 5) := gs_iload_n (by decide +kernel : decode mi_6.2.1 4 = .ok (.iload_n 1, 1)) rfl rfl
theorem s_6_5 {K : gC} : gOk K g_Ms mi_6 5 (ga_iald 6) := gs_iald (by decide +kernel : decode mi_6.2.1 5 = .ok (.iaload, 1)) rfl
theorem s_6_6 {K : gC} : gOk K g_Ms mi_6 6 (ga_istore 3 7) := gs_istore_n (by decide +kernel : decode mi_6.2.1 6 = .ok (.istore_n 3, 1)) rfl rfl
theorem s_6_7 {K : gC} : gOk K g_Ms mi_6 7 (ga_aload 0 8) := gs_aload_n (by decide +kernel : decode mi_6.2.1 7 = .ok (.aload_n 0, 1)) rfl rfl
theorem s_6_8 {K : gC} : gOk K g_Ms mi_6 8 (ga_getR 0 3 11) := gs_getR gcls_0 (by decide) (by decide) gw_116 (by decide +kernel : decode mi_6.2.1 8 = .ok (.getfield 21, 3)) rfl
theorem s_6_11 {K : gC} : gOk K g_Ms mi_6 11 (ga_iload 1 12) := gs_iload_n (by decide +kernel : decode mi_6.2.1 11 = .ok (.iload_n 1, 1)) rfl rfl
theorem s_6_12 {K : gC} : gOk K g_Ms mi_6 12 (ga_iald 13) := gs_iald (by decide +kernel : decode mi_6.2.1 12 = .ok (.iaload, 1)) rfl
theorem s_6_13 {K : gC} : gOk K g_Ms mi_6 13 (ga_istore 4 15) := gs_istore (by decide +kernel : decode mi_6.2.1 13 = .ok (.istore 4, 2)) rfl
theorem s_6_15 {K : gC} : gOk K g_Ms mi_6 15 (ga_aload 0 16) := gs_aload_n (by decide +kernel : decode mi_6.2.1 15 = .ok (.aload_n 0, 1)) rfl rfl
theorem s_6_16 {K : gC} : gOk K g_Ms mi_6 16 (ga_getR 0 2 19) := gs_getR gcls_0 (by decide) (by decide) gw_110 (by decide +kernel : decode mi_6.2.1 16 = .ok (.getfield 18, 3)) rfl
theorem s_6_19 {K : gC} : gOk K g_Ms mi_6 19 (ga_iload 1 20) := gs_iload_n (by decide +kernel : decode mi_6.2.1 19 = .ok (.iload_n 1, 1)) rfl rfl
theorem s_6_20 {K : gC} : gOk K g_Ms mi_6 20 (ga_aload 0 21) := gs_aload_n (by decide +kernel : decode mi_6.2.1 20 = .ok (.aload_n 0, 1)) rfl rfl
theorem s_6_21 {K : gC} : gOk K g_Ms mi_6 21 (ga_getR 0 2 24) := gs_getR gcls_0 (by decide) (by decide) gw_110 (by decide +kernel : decode mi_6.2.1 21 = .ok (.getfield 18, 3)) rfl
theorem s_6_24 {K : gC} : gOk K g_Ms mi_6 24 (ga_iload 2 25) := gs_iload_n (by decide +kernel : decode mi_6.2.1 24 = .ok (.iload_n 2, 1)) rfl rfl
theorem s_6_25 {K : gC} : gOk K g_Ms mi_6 25 (ga_iald 26) := gs_iald (by decide +kernel : decode mi_6.2.1 25 = .ok (.iaload, 1)) rfl
theorem s_6_26 {K : gC} : gOk K g_Ms mi_6 26 (ga_iast 27) := gs_iast (by decide +kernel : decode mi_6.2.1 26 = .ok (.iastore, 1)) rfl
theorem s_6_27 {K : gC} : gOk K g_Ms mi_6 27 (ga_aload 0 28) := gs_aload_n (by decide +kernel : decode mi_6.2.1 27 = .ok (.aload_n 0, 1)) rfl rfl
theorem s_6_28 {K : gC} : gOk K g_Ms mi_6 28 (ga_getR 0 3 31) := gs_getR gcls_0 (by decide) (by decide) gw_116 (by decide +kernel : decode mi_6.2.1 28 = .ok (.getfield 21, 3)) rfl
theorem s_6_31 {K : gC} : gOk K g_Ms mi_6 31 (ga_iload 1 32) := gs_iload_n (by decide +kernel : decode mi_6.2.1 31 = .ok (.iload_n 1, 1)) rfl rfl
theorem s_6_32 {K : gC} : gOk K g_Ms mi_6 32 (ga_aload 0 33) := gs_aload_n (by decide +kernel : decode mi_6.2.1 32 = .ok (.aload_n 0, 1)) rfl rfl
theorem s_6_33 {K : gC} : gOk K g_Ms mi_6 33 (ga_getR 0 3 36) := gs_getR gcls_0 (by decide) (by decide) gw_116 (by decide +kernel : decode mi_6.2.1 33 = .ok (.getfield 21, 3)) rfl
theorem s_6_36 {K : gC} : gOk K g_Ms mi_6 36 (ga_iload 2 37) := gs_iload_n (by decide +kernel : decode mi_6.2.1 36 = .ok (.iload_n 2, 1)) rfl rfl
theorem s_6_37 {K : gC} : gOk K g_Ms mi_6 37 (ga_iald 38) := gs_iald (by decide +kernel : decode mi_6.2.1 37 = .ok (.iaload, 1)) rfl
theorem s_6_38 {K : gC} : gOk K g_Ms mi_6 38 (ga_iast 39) := gs_iast (by decide +kernel : decode mi_6.2.1 38 = .ok (.iastore, 1)) rfl
theorem s_6_39 {K : gC} : gOk K g_Ms mi_6 39 (ga_aload 0 40) := gs_aload_n (by decide +kernel : decode mi_6.2.1 39 = .ok (.aload_n 0, 1)) rfl rfl
theorem s_6_40 {K : gC} : gOk K g_Ms mi_6 40 (ga_getR 0 2 43) := gs_getR gcls_0 (by decide) (by decide) gw_110 (by decide +kernel : decode mi_6.2.1 40 = .ok (.getfield 18, 3)) rfl
theorem s_6_43 {K : gC} : gOk K g_Ms mi_6 43 (ga_iload 2 44) := gs_iload_n (by decide +kernel : decode mi_6.2.1 43 = .ok (.iload_n 2, 1)) rfl rfl
theorem s_6_44 {K : gC} : gOk K g_Ms mi_6 44 (ga_iload 3 45) := gs_iload_n (by decide +kernel : decode mi_6.2.1 44 = .ok (.iload_n 3, 1)) rfl rfl
theorem s_6_45 {K : gC} : gOk K g_Ms mi_6 45 (ga_iast 46) := gs_iast (by decide +kernel : decode mi_6.2.1 45 = .ok (.iastore, 1)) rfl
theorem s_6_46 {K : gC} : gOk K g_Ms mi_6 46 (ga_aload 0 47) := gs_aload_n (by decide +kernel : decode mi_6.2.1 46 = .ok (.aload_n 0, 1)) rfl rfl
theorem s_6_47 {K : gC} : gOk K g_Ms mi_6 47 (ga_getR 0 3 50) := gs_getR gcls_0 (by decide) (by decide) gw_116 (by decide +kernel : decode mi_6.2.1 47 = .ok (.getfield 21, 3)) rfl
theorem s_6_50 {K : gC} : gOk K g_Ms mi_6 50 (ga_iload 2 51) := gs_iload_n (by decide +kernel : decode mi_6.2.1 50 = .ok (.iload_n 2, 1)) rfl rfl
theorem s_6_51 {K : gC} : gOk K g_Ms mi_6 51 (ga_iload 4 53) := gs_iload (by decide +kernel : decode mi_6.2.1 51 = .ok (.iload 4, 2)) rfl
theorem s_6_53 {K : gC} : gOk K g_Ms mi_6 53 (ga_iast 54) := gs_iast (by decide +kernel : decode mi_6.2.1 53 = .ok (.iastore, 1)) rfl
theorem s_6_54 {K : gC} : gOk K g_Ms mi_6 54 (ga_vret) := gs_vret (by decide +kernel : decode mi_6.2.1 54 = .ok (.return_, 1)) rfl
theorem ok_6 {K : gC} : ∀ e ∈ t_6, gOk K g_Ms mi_6 e.1 e.2 := by
  unfold t_6
  simp only [List.forall_mem_cons, List.not_mem_nil, false_implies, implies_true, and_true]
  exact ⟨s_6_0, s_6_1, s_6_4, s_6_5, s_6_6, s_6_7, s_6_8, s_6_11, s_6_12, s_6_13, s_6_15, s_6_16, s_6_19, s_6_20, s_6_21, s_6_24, s_6_25, s_6_26, s_6_27, s_6_28, s_6_31, s_6_32, s_6_33, s_6_36, s_6_37, s_6_38, s_6_39, s_6_40, s_6_43, s_6_44, s_6_45, s_6_46, s_6_47, s_6_50, s_6_51, s_6_53, s_6_54⟩
theorem s_7_0 {K : gC} : gOk K g_Ms mi_7 0 (ga_aload 0 1) := gs_aload_n (by decide +kernel : decode mi_7.2.1 0 = .ok (.aload_n 0, 1)) rfl rfl
theorem s_7_1 {K : gC} : gOk K g_Ms mi_7 1 (ga_getR 0 0 4) := gs_getR gcls_0 (by decide) (by decide) gw_102 (by decide +kernel : decode mi_7.2.1 1 = .ok (.getfield 9, 3)) rfl
theorem s_7_4 {K : gC} : gOk K g_Ms mi_7 4 (ga_iload 1 5) := gs_iload_n (by decide +kernel : decode mi_7.2.1 4 = .ok (.iload_n 1, 1)) rfl rfl
theorem s_7_5 {K : gC} : gOk K g_Ms mi_7 5 (ga_iald 6) := gs_iald (by decide +kernel : decode mi_7.2.1 5 = .ok (.iaload, 1)) rfl
theorem s_7_6 {K : gC} : gOk K g_Ms mi_7 6 (ga_istore 2 7) := gs_istore_n (by decide +kernel : decode mi_7.2.1 6 = .ok (.istore_n 2, 1)) rfl rfl
theorem s_7_7 {K : gC} : gOk K g_Ms mi_7 7 (ga_iload 2 8) := gs_iload_n (by decide +kernel : decode mi_7.2.1 7 = .ok (.iload_n 2, 1)) rfl rfl
theorem s_7_8 {K : gC} : gOk K g_Ms mi_7 8 (ga_push (.int (-1)) 9) := gs_iconst (by decide +kernel : decode mi_7.2.1 8 = .ok (.iconst (-1), 1)) (by decide) rfl
theorem s_7_9 {K : gC} : gOk K g_Ms mi_7 9 (ga_cmp (fun x y => decide (¬ x = y)) 13 12) := gs_cmp_ne (by decide +kernel : decode mi_7.2.1 9 = .ok (.if_icmp .ne 4, 3)) (by decide) rfl
theorem s_7_12 {K : gC} : gOk K g_Ms mi_7 12 (ga_vret) := gs_vret (by decide +kernel : decode mi_7.2.1 12 = .ok (.return_, 1)) rfl
theorem s_7_13 {K : gC} : gOk K g_Ms mi_7 13 (ga_push (.int 0) 14) := gs_iconst (by decide +kernel : decode mi_7.2.1 13 = .ok (.iconst 0, 1)) (by decide) rfl
theorem s_7_14 {K : gC} : gOk K g_Ms mi_7 14 (ga_istore 3 15) := gs_istore_n (by decide +kernel : decode mi_7.2.1 14 = .ok (.istore_n 3, 1)) rfl rfl
theorem s_7_15 {K : gC} : gOk K g_Ms mi_7 15 (ga_iload 3 16) := gs_iload_n (by decide +kernel : decode mi_7.2.1 15 = .ok (.iload_n 3, 1)) rfl rfl
theorem s_7_16 {K : gC} : gOk K g_Ms mi_7 16 (ga_aload 0 17) := gs_aload_n (by decide +kernel : decode mi_7.2.1 16 = .ok (.aload_n 0, 1)) rfl rfl
theorem s_7_17 {K : gC} : gOk K g_Ms mi_7 17 (ga_getI 0 4 20) := gs_getI gcls_0 (by decide) (by decide) gw_119 (by decide +kernel : decode mi_7.2.1 17 = .ok (.getfield 28, 3)) rfl
theorem s_7_20 {K : gC} : gOk K g_Ms mi_7 20 (ga_cmp (fun x y => decide (y ≤ x)) 66 23) := gs_cmp_ge (by decide +kernel : decode mi_7.2.1 20 = .ok (.if_icmp .ge 46, 3)) (by decide) rfl
theorem s_7_23 {K : gC} : gOk K g_Ms mi_7 23 (ga_aload 0 24) := gs_aload_n (by decide +kernel : decode mi_7.2.1 23 = .ok (.aload_n 0, 1)) rfl rfl
theorem s_7_24 {K : gC} : gOk K g_Ms mi_7 24 (ga_getR 0 0 27) := gs_getR gcls_0 (by decide) (by decide) gw_102 (by decide +kernel : decode mi_7.2.1 24 = .ok (.getfield 9, 3)) rfl
theorem s_7_27 {K : gC} : gOk K g_Ms mi_7 27 (ga_iload 3 28) := gs_iload_n (by decide +kernel : decode mi_7.2.1 27 = .ok (.iload_n 3, 1)) rfl rfl
theorem s_7_28 {K : gC} : gOk K g_Ms mi_7 28 (ga_iald 29) := gs_iald (by decide +kernel : decode mi_7.2.1 28 = .ok (.iaload, 1)) rfl
theorem s_7_29 {K : gC} : gOk K g_Ms mi_7 29 (ga_iload 1 30) := gs_iload_n (by decide +kernel : decode mi_7.2.1 29 = .ok (.iload_n 1, 1)) rfl rfl
theorem s_7_30 {K : gC} : gOk K g_Ms mi_7 30 (ga_cmp (fun x y => decide (¬ x = y)) 60 33) := gs_cmp_ne (by decide +kernel : decode mi_7.2.1 30 = .ok (.if_icmp .ne 30, 3)) (by decide) rfl
theorem s_7_33 {K : gC} : gOk K g_Ms mi_7 33 (ga_iload 3 34) := gs_iload_n (by decide +kernel : decode mi_7.2.1 33 = .ok (.iload_n 3, 1)) rfl rfl
theorem s_7_34 {K : gC} : gOk K g_Ms mi_7 34 (ga_iload 2 35) := gs_iload_n (by decide +kernel : decode mi_7.2.1 34 = .ok (.iload_n 2, 1)) rfl rfl
theorem s_7_35 {K : gC} : gOk K g_Ms mi_7 35 (ga_cmp (fun x y => decide (x = y)) 60 38) := gs_cmp_eq (by decide +kernel : decode mi_7.2.1 35 = .ok (.if_icmp .eq 25, 3)) (by decide) rfl
theorem s_7_38 {K : gC} : gOk K g_Ms mi_7 38 (ga_aload 0 39) := gs_aload_n (by decide +kernel : decode mi_7.2.1 38 = .ok (.aload_n 0, 1)) rfl rfl
theorem s_7_39 {K : gC} : gOk K g_Ms mi_7 39 (ga_getR 0 0 42) := gs_getR gcls_0 (by decide) (by decide) gw_102 (by decide +kernel : decode mi_7.2.1 39 = .ok (.getfield 9, 3)) rfl
theorem s_7_42 {K : gC} : gOk K g_Ms mi_7 42 (ga_iload 3 43) := gs_iload_n (by decide +kernel : decode mi_7.2.1 42 = .ok (.iload_n 3, 1)) rfl rfl
theorem s_7_43 {K : gC} : gOk K g_Ms mi_7 43 (ga_iload 2 44) := gs_iload_n (by decide +kernel : decode mi_7.2.1 43 = .ok (.iload_n 2, 1)) rfl rfl
theorem s_7_44 {K : gC} : gOk K g_Ms mi_7 44 (ga_iast 45) := gs_iast (by decide +kernel : decode mi_7.2.1 44 = .ok (.iastore, 1)) rfl
theorem s_7_45 {K : gC} : gOk K g_Ms mi_7 45 (ga_aload 0 46) := gs_aload_n (by decide +kernel : decode mi_7.2.1 45 = .ok (.aload_n 0, 1)) rfl rfl
theorem s_7_46 {K : gC} : gOk K g_Ms mi_7 46 (ga_getR 0 1 49) := gs_getR gcls_0 (by decide) (by decide) gw_107 (by decide +kernel : decode mi_7.2.1 46 = .ok (.getfield 15, 3)) rfl
theorem s_7_49 {K : gC} : gOk K g_Ms mi_7 49 (ga_iload 3 50) := gs_iload_n (by decide +kernel : decode mi_7.2.1 49 = .ok (.iload_n 3, 1)) rfl rfl
theorem s_7_50 {K : gC} : gOk K g_Ms mi_7 50 (ga_dup2 51) := gs_dup2 (by decide +kernel : decode mi_7.2.1 50 = .ok (.dup2, 1)) rfl
theorem s_7_51 {K : gC} : gOk K g_Ms mi_7 51 (ga_iald 52) := gs_iald (by decide +kernel : decode mi_7.2.1 51 = .ok (.iaload, 1)) rfl
theorem s_7_52 {K : gC} : gOk K g_Ms mi_7 52 (ga_aload 0 53) := gs_aload_n (by decide +kernel : decode mi_7.2.1 52 = .ok (.aload_n 0, 1)) rfl rfl
theorem s_7_53 {K : gC} : gOk K g_Ms mi_7 53 (ga_getR 0 1 56) := gs_getR gcls_0 (by decide) (by decide) gw_107 (by decide +kernel : decode mi_7.2.1 53 = .ok (.getfield 15, 3)) rfl
theorem s_7_56 {K : gC} : gOk K g_Ms mi_7 56 (ga_iload 1 57) := gs_iload_n (by decide +kernel : decode mi_7.2.1 56 = .ok (.iload_n 1, 1)) rfl rfl
theorem s_7_57 {K : gC} : gOk K g_Ms mi_7 57 (ga_iald 58) := gs_iald (by decide +kernel : decode mi_7.2.1 57 = .ok (.iaload, 1)) rfl
theorem s_7_58 {K : gC} : gOk K g_Ms mi_7 58 (ga_bin (fun x y => x + y) 59) := gs_iadd (by decide +kernel : decode mi_7.2.1 58 = .ok (.iadd, 1)) rfl
theorem s_7_59 {K : gC} : gOk K g_Ms mi_7 59 (ga_iast 60) := gs_iast (by decide +kernel : decode mi_7.2.1 59 = .ok (.iastore, 1)) rfl
theorem s_7_60 {K : gC} : gOk K g_Ms mi_7 60 (ga_iinc 3 1 63) := gs_iinc (by decide +kernel : decode mi_7.2.1 60 = .ok (.iinc 3 1, 3)) (by decide) rfl
theorem s_7_63 {K : gC} : gOk K g_Ms mi_7 63 (ga_goto 15) := gs_goto (by decide +kernel : decode mi_7.2.1 63 = .ok (.goto (-48), 3)) (by decide)
theorem s_7_66 {K : gC} : gOk K g_Ms mi_7 66 (ga_vret) := gs_vret (by decide +kernel : decode mi_7.2.1 66 = .ok (.return_, 1)) rfl
theorem ok_7 {K : gC} : ∀ e ∈ t_7, gOk K g_Ms mi_7 e.1 e.2 := by
  unfold t_7
  simp only [List.forall_mem_cons, List.not_mem_nil, false_implies, implies_true, and_true]
  exact ⟨s_7_0, s_7_1, s_7_4, s_7_5, s_7_6, s_7_7, s_7_8, s_7_9, s_7_12, s_7_13, s_7_14, s_7_15, s_7_16, s_7_17, s_7_20, s_7_23, s_7_24, s_7_27, s_7_28, s_7_29, s_7_30, s_7_33, s_7_34, s_7_35, s_7_38, s_7_39, s_7_42, s_7_43, s_7_44, s_7_45, s_7_46, s_7_49, s_7_50, s_7_51, s_7_52, s_7_53, s_7_56, s_7_57, s_7_58, s_7_59, s_7_60, s_7_63, s_7_66⟩
theorem s_8_0 {K : gC} : gOk K g_Ms mi_8 0 (ga_aload 0 1) := gs_aload_n (by decide +kernel : decode mi_8.2.1 0 = .ok (.aload_n 0, 1)) rfl rfl
theorem s_8_1 {K : gC} : gOk K g_Ms mi_8 1 (ga_oinit 4) := gs_oinit gw_191 gw_59 gw_objc (by decide) (by decide) (by decide +kernel : decode mi_8.2.1 1 = .ok (.invokespecial 3, 3)) rfl
theorem s_8_4 {K : gC} : gOk K g_Ms mi_8 4 (ga_aload 0 5) := gs_aload_n (by decide +kernel : decode mi_8.2.1 4 = .ok (.aload_n 0, 1)) rfl rfl
theorem s_8_5 {K : gC} : gOk K g_Ms mi_8 5 (ga_new 0 6 8) := gs_new gcls_0 gw_192 (by decide +kernel : decode mi_8.2.1 5 = .ok (.new 9, 3)) rfl
theorem s_8_8 {K : gC} : gOk K g_Ms mi_8 8 (ga_dup 9) := gs_dup (by decide +kernel : decode mi_8.2.1 8 = .ok (.dup, 1)) rfl
theorem s_8_9 {K : gC} : gOk K g_Ms mi_8 9 (ga_callI 0 0 12) := gs_callI (gce_X0_init (by decide) (by decide)) gw_193 gw_92 rfl rfl (by decide +kernel : decode mi_8.2.1 9 = .ok (.invokespecial 11, 3)) rfl
theorem s_8_12 {K : gC} : gOk K g_Ms mi_8 12 (ga_putR 1 0 15) := gs_putR gcls_1 (by decide) (by decide) (fun _ => ⟨rfl, rfl⟩) rfl rfl rfl gw_213 (by decide +kernel : decode mi_8.2.1 12 = .ok (.putfield 12, 3)) rfl
theorem s_8_15 {K : gC} : gOk K g_Ms mi_8 15 (ga_aload 0 16) := gs_aload_n (by decide +kernel : decode mi_8.2.1 15 = .ok (.aload_n 0, 1)) rfl rfl
theorem s_8_16 {K : gC} : gOk K g_Ms mi_8 16 (ga_new 5 3 19) := gs_new gcls_5 gw_194 (by decide +kernel : decode mi_8.2.1 16 = .ok (.new 18, 3)) rfl
theorem s_8_19 {K : gC} : gOk K g_Ms mi_8 19 (ga_dup 20) := gs_dup (by decide +kernel : decode mi_8.2.1 19 = .ok (.dup, 1)) rfl
theorem s_8_20 {K : gC} : gOk K g_Ms mi_8 20 (ga_callI 50 0 23) := gs_callN rfl rfl (gce_X5_init (by decide) (by decide)) gw_197 rfl (by decide +kernel : decode mi_8.2.1 20 = .ok (.invokespecial 20, 3)) rfl
theorem s_8_23 {K : gC} : gOk K g_Ms mi_8 23 (ga_putR 1 1 26) := gs_putR gcls_1 (by decide) (by decide) (fun _ => ⟨rfl, rfl⟩) rfl rfl rfl gw_214 (by decide +kernel : decode mi_8.2.1 23 = .ok (.putfield 21, 3)) rfl
theorem s_8_26 {K : gC} : gOk K g_Ms mi_8 26 (ga_aload 0 27) := gs_aload_n (by decide +kernel : decode mi_8.2.1 26 = .ok (.aload_n 0, 1)) rfl rfl
theorem s_8_27 {K : gC} : gOk K g_Ms mi_8 27 (ga_new 5 3 30) := gs_new gcls_5 gw_194 (by decide +kernel : decode mi_8.2.1 27 = .ok (.new 18, 3)) rfl
theorem s_8_30 {K : gC} : gOk K g_Ms mi_8 30 (ga_dup 31) := gs_dup (by decide +kernel : decode mi_8.2.1 30 = .ok (.dup, 1)) rfl
theorem s_8_31 {K : gC} : gOk K g_Ms mi_8 31 (ga_callI 50 0 34) := gs_callN rfl rfl (gce_X5_init (by decide) (by decide)) gw_197 rfl (by decide +kernel : decode mi_8.2.1 31 = .ok (.invokespecial 20, 3)) rfl
theorem s_8_34 {K : gC} : gOk K g_Ms mi_8 34 (ga_putR 1 2 37) := gs_putR gcls_1 (by decide) (by decide) (fun _ => ⟨rfl, rfl⟩) rfl rfl rfl gw_215 (by decide +kernel : decode mi_8.2.1 34 = .ok (.putfield 25, 3)) rfl
theorem s_8_37 {K : gC} : gOk K g_Ms mi_8 37 (ga_vret) := gs_vret (by decide +kernel : decode mi_8.2.1 37 = .ok (.return_, 1)) rfl
theorem ok_8 {K : gC} : ∀ e ∈ t_8, gOk K g_Ms mi_8 e.1 e.2 := by
  unfold t_8
  simp only [List.forall_mem_cons, List.not_mem_nil, false_implies, implies_true, and_true]
  exact ⟨s_8_0, s_8_1, s_8_4, s_8_5, s_8_8, s_8_9, s_8_12, s_8_15, s_8_16, s_8_19, s_8_20, s_8_23, s_8_26, s_8_27, s_8_30, s_8_31, s_8_34, s_8_37⟩
theorem s_9_0 {K : gC} : gOk K g_Ms mi_9 0 (ga_aload 0 1) := gs_aload_n (by decide +kernel : decode mi_9.2.1 0 = .ok (.aload_n 0, 1)) rfl rfl
theorem s_9_1 {K : gC} : gOk K g_Ms mi_9 1 (ga_getR 1 0 4) := gs_getR gcls_1 (by decide) (by decide) gw_213 (by decide +kernel : decode mi_9.2.1 1 = .ok (.getfield 12, 3)) rfl
theorem s_9_4 {K : gC} : gOk K g_Ms mi_9 4 (ga_aload 1 5) := gs_aload_n (by decide +kernel : decode mi_9.2.1 4 = .ok (.aload_n 1, 1)) rfl rfl
theorem s_9_5 {K : gC} : gOk K g_Ms mi_9 5 (ga_callV 0 2 1 8) := gs_callV gcls_0 (gce_X0_copyFrom (by decide) (by decide)) gw_503 gw_285 gw_286 (by decide +kernel : decode mi_9.2.1 5 = .ok (.invokevirtual 28, 3)) rfl
theorem s_9_8 {K : gC} : gOk K g_Ms mi_9 8 (ga_aload 0 9) := gs_aload_n (by decide +kernel : decode mi_9.2.1 8 = .ok (.aload_n 0, 1)) rfl rfl
theorem s_9_9 {K : gC} : gOk K g_Ms mi_9 9 (ga_iload 2 10) := gs_iload_n (by decide +kernel : decode mi_9.2.1 9 = .ok (.iload_n 2, 1)) rfl rfl
theorem s_9_10 {K : gC} : gOk K g_Ms mi_9 10 (ga_putI 1 3 13) := gs_putI gcls_1 (by decide) (by decide) rfl rfl gw_216 (by decide +kernel : decode mi_9.2.1 10 = .ok (.putfield 32, 3)) rfl
theorem s_9_13 {K : gC} : gOk K g_Ms mi_9 13 (ga_aload 0 14) := gs_aload_n (by decide +kernel : decode mi_9.2.1 13 = .ok (.aload_n 0, 1)) rfl rfl
theorem s_9_14 {K : gC} : gOk K g_Ms mi_9 14 (ga_push (.int (-1)) 15) := gs_iconst (by decide +kernel : decode mi_9.2.1 14 = .ok (.iconst (-1), 1)) (by decide) rfl
theorem s_9_15 {K : gC} : gOk K g_Ms mi_9 15 (ga_putI 1 4 18) := gs_putI gcls_1 (by decide) (by decide) rfl rfl gw_217 (by decide +kernel : decode mi_9.2.1 15 = .ok (.putfield 36, 3)) rfl
theorem s_9_18 {K : gC} : gOk K g_Ms mi_9 18 (ga_vret) := gs_vret (by decide +kernel : decode mi_9.2.1 18 = .ok (.return_, 1)) rfl
theorem ok_9 {K : gC} : ∀ e ∈ t_9, gOk K g_Ms mi_9 e.1 e.2 := by
  unfold t_9
  simp only [List.forall_mem_cons, List.not_mem_nil, false_implies, implies_true, and_true]
  exact ⟨s_9_0, s_9_1, s_9_4, s_9_5, s_9_8, s_9_9, s_9_10, s_9_13, s_9_14, s_9_15, s_9_18⟩
theorem s_10_0 {K : gC} : gOk K g_Ms mi_10 0 (ga_iload 2 1) := gs_iload_n (by decide +kernel : decode mi_10.2.1 0 = .ok (.iload_n 2, 1)) rfl rfl
theorem s_10_1 {K : gC} : gOk K g_Ms mi_10 1 (ga_iload 1 2) := gs_iload_n (by decide +kernel : decode mi_10.2.1 1 = .ok (.iload_n 1, 1)) rfl rfl
theorem s_10_2 {K : gC} : gOk K g_Ms mi_10 2 (ga_cmp (fun x y => decide (¬ x = y)) 7 5) := gs_cmp_ne (by decide +kernel : decode mi_10.2.1 2 = .ok (.if_icmp .ne 5, 3)) (by decide) rfl
theorem s_10_5 {K : gC} : gOk K g_Ms mi_10 5 (ga_push (.int 0) 6) := gs_iconst (by decide +kernel : decode mi_10.2.1 5 = .ok (.iconst 0, 1)) (by decide) rfl
theorem s_10_6 {K : gC} : gOk K g_Ms mi_10 6 (ga_iret) := gs_iret (by decide +kernel : decode mi_10.2.1 6 = .ok (.ireturn, 1)) rfl
theorem s_10_7 {K : gC} : gOk K g_Ms mi_10 7 (ga_aload 0 8) := gs_aload_n (by decide +kernel : decode mi_10.2.1 7 = .ok (.aload_n 0, 1)) rfl rfl
theorem s_10_8 {K : gC} : gOk K g_Ms mi_10 8 (ga_getR 1 1 11) := gs_getR gcls_1 (by decide) (by decide) gw_214 (by decide +kernel : decode mi_10.2.1 8 = .ok (.getfield 21, 3)) rfl
theorem s_10_11 {K : gC} : gOk K g_Ms mi_10 11 (ga_aload 0 12) := gs_aload_n (by decide +kernel : decode mi_10.2.1 11 = .ok (.aload_n 0, 1)) rfl rfl
theorem s_10_12 {K : gC} : gOk K g_Ms mi_10 12 (ga_getR 1 0 15) := gs_getR gcls_1 (by decide) (by decide) gw_213 (by decide +kernel : decode mi_10.2.1 12 = .ok (.getfield 12, 3)) rfl
theorem s_10_15 {K : gC} : gOk K g_Ms mi_10 15 (ga_aload 0 16) := gs_aload_n (by decide +kernel : decode mi_10.2.1 15 = .ok (.aload_n 0, 1)) rfl rfl
theorem s_10_16 {K : gC} : gOk K g_Ms mi_10 16 (ga_getI 1 3 19) := gs_getI gcls_1 (by decide) (by decide) gw_216 (by decide +kernel : decode mi_10.2.1 16 = .ok (.getfield 32, 3)) rfl
theorem s_10_19 {K : gC} : gOk K g_Ms mi_10 19 (ga_aload 0 20) := gs_aload_n (by decide +kernel : decode mi_10.2.1 19 = .ok (.aload_n 0, 1)) rfl rfl
theorem s_10_20 {K : gC} : gOk K g_Ms mi_10 20 (ga_getI 1 4 23) := gs_getI gcls_1 (by decide) (by decide) gw_217 (by decide +kernel : decode mi_10.2.1 20 = .ok (.getfield 36, 3)) rfl
theorem s_10_23 {K : gC} : gOk K g_Ms mi_10 23 (ga_iload 1 24) := gs_iload_n (by decide +kernel : decode mi_10.2.1 23 = .ok (.iload_n 1, 1)) rfl rfl
theorem s_10_24 {K : gC} : gOk K g_Ms mi_10 24 (ga_iload 2 25) := gs_iload_n (by decide +kernel : decode mi_10.2.1 24 = .ok (.iload_n 2, 1)) rfl rfl
theorem s_10_25 {K : gC} : gOk K g_Ms mi_10 25 (ga_callV 5 51 5 28) := gs_callV gcls_5 (gce_X5_trace (by decide) (by decide)) gw_508 gw_509 gw_510 (by decide +kernel : decode mi_10.2.1 25 = .ok (.invokevirtual 39, 3)) rfl
theorem s_10_28 {K : gC} : gOk K g_Ms mi_10 28 (ga_if (fun x => decide (¬ x = 0)) 33 31) := gs_if_ne (by decide +kernel : decode mi_10.2.1 28 = .ok (.ifCond .ne 5, 3)) (by decide) rfl
theorem s_10_31 {K : gC} : gOk K g_Ms mi_10 31 (ga_push (.int (-1)) 32) := gs_iconst (by decide +kernel : decode mi_10.2.1 31 = .ok (.iconst (-1), 1)) (by decide) rfl
theorem s_10_32 {K : gC} : gOk K g_Ms mi_10 32 (ga_iret) := gs_iret (by decide +kernel : decode mi_10.2.1 32 = .ok (.ireturn, 1)) rfl
theorem s_10_33 {K : gC} : gOk K g_Ms mi_10 33 (ga_aload 0 34) := gs_aload_n (by decide +kernel : decode mi_10.2.1 33 = .ok (.aload_n 0, 1)) rfl rfl
theorem s_10_34 {K : gC} : gOk K g_Ms mi_10 34 (ga_getR 1 1 37) := gs_getR gcls_1 (by decide) (by decide) gw_214 (by decide +kernel : decode mi_10.2.1 34 = .ok (.getfield 21, 3)) rfl
theorem s_10_37 {K : gC} : gOk K g_Ms mi_10 37 (ga_getI 5 1 40) := gs_getI gcls_5 (by decide) (by decide) gw_203 (by decide +kernel : decode mi_10.2.1 37 = .ok (.getfield 43, 3)) rfl
theorem s_10_40 {K : gC} : gOk K g_Ms mi_10 40 (ga_if (fun x => decide (¬ x = 0)) 51 43) := gs_if_ne (by decide +kernel : decode mi_10.2.1 40 = .ok (.ifCond .ne 11, 3)) (by decide) rfl
theorem s_10_43 {K : gC} : gOk K g_Ms mi_10 43 (ga_aload 0 44) := gs_aload_n (by decide +kernel : decode mi_10.2.1 43 = .ok (.aload_n 0, 1)) rfl rfl
theorem s_10_44 {K : gC} : gOk K g_Ms mi_10 44 (ga_getR 1 1 47) := gs_getR gcls_1 (by decide) (by decide) gw_214 (by decide +kernel : decode mi_10.2.1 44 = .ok (.getfield 21, 3)) rfl
theorem s_10_47 {K : gC} : gOk K g_Ms mi_10 47 (ga_getI 5 0 50) := gs_getI gcls_5 (by decide) (by decide) gw_201 (by decide +kernel : decode mi_10.2.1 47 = .ok (.getfield 46, 3)) rfl
theorem s_10_50 {K : gC} : gOk K g_Ms mi_10 50 (ga_iret) := gs_iret (by decide +kernel : decode mi_10.2.1 50 = .ok (.ireturn, 1)) rfl
theorem s_10_51 {K : gC} : gOk K g_Ms mi_10 51 (ga_aload 0 52) := gs_aload_n (by decide +kernel : decode mi_10.2.1 51 = .ok (.aload_n 0, 1)) rfl rfl
theorem s_10_52 {K : gC} : gOk K g_Ms mi_10 52 (ga_iload 1 53) := gs_iload_n (by decide +kernel : decode mi_10.2.1 52 = .ok (.iload_n 1, 1)) rfl rfl
theorem s_10_53 {K : gC} : gOk K g_Ms mi_10 53 (ga_callV 1 11 1 56) := gs_callV gcls_1 (gce_X1_roundMinutes (by decide) (by decide)) gw_514 gw_515 gw_516 (by decide +kernel : decode mi_10.2.1 53 = .ok (.invokevirtual 49, 3)) rfl
theorem s_10_56 {K : gC} : gOk K g_Ms mi_10 56 (ga_istore 3 57) := gs_istore_n (by decide +kernel : decode mi_10.2.1 56 = .ok (.istore_n 3, 1)) rfl rfl
theorem s_10_57 {K : gC} : gOk K g_Ms mi_10 57 (ga_iload 3 58) := gs_iload_n (by decide +kernel : decode mi_10.2.1 57 = .ok (.iload_n 3, 1)) rfl rfl
theorem s_10_58 {K : gC} : gOk K g_Ms mi_10 58 (ga_push (.int (-1)) 59) := gs_iconst (by decide +kernel : decode mi_10.2.1 58 = .ok (.iconst (-1), 1)) (by decide) rfl
theorem s_10_59 {K : gC} : gOk K g_Ms mi_10 59 (ga_cmp (fun x y => decide (¬ x = y)) 66 62) := gs_cmp_ne (by decide +kernel : decode mi_10.2.1 59 = .ok (.if_icmp .ne 7, 3)) (by decide) rfl
theorem s_10_62 {K : gC} : gOk K g_Ms mi_10 62 (ga_push (.int (-1)) 63) := gs_iconst (by decide +kernel : decode mi_10.2.1 62 = .ok (.iconst (-1), 1)) (by decide) rfl
theorem s_10_63 {K : gC} : gOk K g_Ms mi_10 63 (ga_goto 87) := gs_goto (by decide +kernel : decode mi_10.2.1 63 = .ok (.goto 24, 3)) (by decide)
theorem s_10_66 {K : gC} : gOk K g_Ms mi_10 66 (ga_aload 0 67) := gs_aload_n (by decide +kernel : decode mi_10.2.1 66 = .ok (.aload_n 0, 1)) rfl rfl
theorem s_10_67 {K : gC} : gOk K g_Ms mi_10 67 (ga_getR 1 1 70) := gs_getR gcls_1 (by decide) (by decide) gw_214 (by decide +kernel : decode mi_10.2.1 67 = .ok (.getfield 21, 3)) rfl
theorem s_10_70 {K : gC} : gOk K g_Ms mi_10 70 (ga_getI 5 0 73) := gs_getI gcls_5 (by decide) (by decide) gw_201 (by decide +kernel : decode mi_10.2.1 70 = .ok (.getfield 46, 3)) rfl
theorem s_10_73 {K : gC} : gOk K g_Ms mi_10 73 (ga_push (.int 1) 74) := gs_iconst (by decide +kernel : decode mi_10.2.1 73 = .ok (.iconst 1, 1)) (by decide) rfl
theorem s_10_74 {K : gC} : gOk K g_Ms mi_10 74 (ga_aload 0 75) := gs_aload_n (by decide +kernel : decode mi_10.2.1 74 = .ok (.aload_n 0, 1)) rfl rfl
theorem s_10_75 {K : gC} : gOk K g_Ms mi_10 75 (ga_getR 1 1 78) := gs_getR gcls_1 (by decide) (by decide) gw_214 (by decide +kernel : decode mi_10.2.1 75 = .ok (.getfield 21, 3)) rfl
theorem s_10_78 {K : gC} : gOk K g_Ms mi_10 78 (ga_getI 5 1 81) := gs_getI gcls_5 (by decide) (by decide) gw_203 (by decide +kernel : decode mi_10.2.1 78 = .ok (.getfield 43, 3)) rfl
theorem s_10_81 {K : gC} : gOk K g_Ms mi_10 81 (ga_bin (fun x y => x <<< (y &&& 31)) 82) := gs_ishl (by decide +kernel : decode mi_10.2.1 81 = .ok (.ishl, 1)) rfl
theorem s_10_82 {K : gC} : gOk K g_Ms mi_10 82 (ga_push (.int 1) 83) := gs_iconst (by decide +kernel : decode mi_10.2.1 82 = .ok (.iconst 1, 1)) (by decide) rfl
theorem s_10_83 {K : gC} : gOk K g_Ms mi_10 83 (ga_bin (fun x y => x - y) 84) := gs_isub (by decide +kernel : decode mi_10.2.1 83 = .ok (.isub, 1)) rfl
theorem s_10_84 {K : gC} : gOk K g_Ms mi_10 84 (ga_iload 3 85) := gs_iload_n (by decide +kernel : decode mi_10.2.1 84 = .ok (.iload_n 3, 1)) rfl rfl
theorem s_10_85 {K : gC} : gOk K g_Ms mi_10 85 (ga_bin (fun x y => x * y) 86) := gs_imul (by decide +kernel : decode mi_10.2.1 85 = .ok (.imul, 1)) rfl
theorem s_10_86 {K : gC} : gOk K g_Ms mi_10 86 (ga_bin (fun x y => x + y) 87) := gs_iadd (by decide +kernel : decode mi_10.2.1 86 = .ok (.iadd, 1)) rfl
theorem s_10_87 {K : gC} : gOk K g_Ms mi_10 87 (ga_iret) := gs_iret (by decide +kernel : decode mi_10.2.1 87 = .ok (.ireturn, 1)) rfl
theorem ok_10 {K : gC} : ∀ e ∈ t_10, gOk K g_Ms mi_10 e.1 e.2 := by
  unfold t_10
  simp only [List.forall_mem_cons, List.not_mem_nil, false_implies, implies_true, and_true]
  exact ⟨s_10_0, s_10_1, s_10_2, s_10_5, s_10_6, s_10_7, s_10_8, s_10_11, s_10_12, s_10_15, s_10_16, s_10_19, s_10_20, s_10_23, s_10_24, s_10_25, s_10_28, s_10_31, s_10_32, s_10_33, s_10_34, s_10_37, s_10_40, s_10_43, s_10_44, s_10_47, s_10_50, s_10_51, s_10_52, s_10_53, s_10_56, s_10_57, s_10_58, s_10_59, s_10_62, s_10_63, s_10_66, s_10_67, s_10_70, s_10_73, s_10_74, s_10_75, s_10_78, s_10_81, s_10_82, s_10_83, s_10_84, s_10_85, s_10_86, s_10_87⟩
theorem s_11_0 {K : gC} : gOk K g_Ms mi_11 0 (ga_aload 0 1) := gs_aload_n (by decide +kernel : decode mi_11.2.1 0 = .ok (.aload_n 0, 1)) rfl rfl
theorem s_11_1 {K : gC} : gOk K g_Ms mi_11 1 (ga_getR 1 2 4) := gs_getR gcls_1 (by decide) (by decide) gw_215 (by decide +kernel : decode mi_11.2.1 1 = .ok (.getfield 25, 3)) rfl
theorem s_11_4 {K : gC} : gOk K g_Ms mi_11 4 (ga_aload 0 5) := gs_aload_n (by decide +kernel : decode mi_11.2.1 4 = .ok (.aload_n 0, 1)) rfl rfl
theorem s_11_5 {K : gC} : gOk K g_Ms mi_11 5 (ga_getR 1 0 8) := gs_getR gcls_1 (by decide) (by decide) gw_213 (by decide +kernel : decode mi_11.2.1 5 = .ok (.getfield 12, 3)) rfl
theorem s_11_8 {K : gC} : gOk K g_Ms mi_11 8 (ga_aload 0 9) := gs_aload_n (by decide +kernel : decode mi_11.2.1 8 = .ok (.aload_n 0, 1)) rfl rfl
theorem s_11_9 {K : gC} : gOk K g_Ms mi_11 9 (ga_getI 1 3 12) := gs_getI gcls_1 (by decide) (by decide) gw_216 (by decide +kernel : decode mi_11.2.1 9 = .ok (.getfield 32, 3)) rfl
theorem s_11_12 {K : gC} : gOk K g_Ms mi_11 12 (ga_aload 0 13) := gs_aload_n (by decide +kernel : decode mi_11.2.1 12 = .ok (.aload_n 0, 1)) rfl rfl
theorem s_11_13 {K : gC} : gOk K g_Ms mi_11 13 (ga_getI 1 4 16) := gs_getI gcls_1 (by decide) (by decide) gw_217 (by decide +kernel : decode mi_11.2.1 13 = .ok (.getfield 36, 3)) rfl
theorem s_11_16 {K : gC} : gOk K g_Ms mi_11 16 (ga_iload 1 17) := gs_iload_n (by decide +kernel : decode mi_11.2.1 16 = .ok (.iload_n 1, 1)) rfl rfl
theorem s_11_17 {K : gC} : gOk K g_Ms mi_11 17 (ga_iload 1 18) := gs_iload_n (by decide +kernel : decode mi_11.2.1 17 = .ok (.iload_n 1, 1)) rfl rfl
theorem s_11_18 {K : gC} : gOk K g_Ms mi_11 18 (ga_callV 5 51 5 21) := gs_callV gcls_5 (gce_X5_trace (by decide) (by decide)) gw_508 gw_509 gw_510 (by decide +kernel : decode mi_11.2.1 18 = .ok (.invokevirtual 39, 3)) rfl
theorem s_11_21 {K : gC} : gOk K g_Ms mi_11 21 (ga_istore 2 22) := gs_istore_n (by decide +kernel : decode mi_11.2.1 21 = .ok (.istore_n 2, 1)) rfl rfl
theorem s_11_22 {K : gC} : gOk K g_Ms mi_11 22 (ga_iload 2 23) := gs_iload_n (by decide +kernel : decode mi_11.2.1 22 = .ok (.iload_n 2, 1)) rfl rfl
theorem s_11_23 {K : gC} : gOk K g_Ms mi_11 23 (ga_if (fun x => decide (x = 0)) 46 26) := gs_if_eq (by decide +kernel : decode mi_11.2.1 23 = .ok (.ifCond .eq 23, 3)) (by decide) rfl
theorem s_11_26 {K : gC} : gOk K g_Ms mi_11 26 (ga_aload 0 27) := gs_aload_n (by decide +kernel : decode mi_11.2.1 26 = .ok (.aload_n 0, 1)) rfl rfl
theorem s_11_27 {K : gC} : gOk K g_Ms mi_11 27 (ga_getR 1 2 30) := gs_getR gcls_1 (by decide) (by decide) gw_215 (by decide +kernel : decode mi_11.2.1 27 = .ok (.getfield 25, 3)) rfl
theorem s_11_30 {K : gC} : gOk K g_Ms mi_11 30 (ga_getI 5 1 33) := gs_getI gcls_5 (by decide) (by decide) gw_203 (by decide +kernel : decode mi_11.2.1 30 = .ok (.getfield 43, 3)) rfl
theorem s_11_33 {K : gC} : gOk K g_Ms mi_11 33 (ga_if (fun x => decide (¬ x = 0)) 46 36) := gs_if_ne (by decide +kernel : decode mi_11.2.1 33 = .ok (.ifCond .ne 13, 3)) (by decide) rfl
theorem s_11_36 {K : gC} : gOk K g_Ms mi_11 36 (ga_aload 0 37) := gs_aload_n (by decide +kernel : decode mi_11.2.1 36 = .ok (.aload_n 0, 1)) rfl rfl
theorem s_11_37 {K : gC} : gOk K g_Ms mi_11 37 (ga_getR 1 2 40) := gs_getR gcls_1 (by decide) (by decide) gw_215 (by decide +kernel : decode mi_11.2.1 37 = .ok (.getfield 25, 3)) rfl
theorem s_11_40 {K : gC} : gOk K g_Ms mi_11 40 (ga_getI 5 0 43) := gs_getI gcls_5 (by decide) (by decide) gw_201 (by decide +kernel : decode mi_11.2.1 40 = .ok (.getfield 46, 3)) rfl
theorem s_11_43 {K : gC} : gOk K g_Ms mi_11 43 (ga_goto 47) := gs_goto (by decide +kernel : decode mi_11.2.1 43 = .ok (.goto 4, 3)) (by decide)
theorem s_11_46 {K : gC} : gOk K g_Ms mi_11 46 (ga_push (.int (-1)) 47) := gs_iconst (by decide +kernel : decode mi_11.2.1 46 = .ok (.iconst (-1), 1)) (by decide) rfl
theorem s_11_47 {K : gC} : gOk K g_Ms mi_11 47 (ga_iret) := gs_iret (by decide +kernel : decode mi_11.2.1 47 = .ok (.ireturn, 1)) rfl
theorem ok_11 {K : gC} : ∀ e ∈ t_11, gOk K g_Ms mi_11 e.1 e.2 := by
  unfold t_11
  simp only [List.forall_mem_cons, List.not_mem_nil, false_implies, implies_true, and_true]
  exact ⟨s_11_0, s_11_1, s_11_4, s_11_5, s_11_8, s_11_9, s_11_12, s_11_13, s_11_16, s_11_17, s_11_18, s_11_21, s_11_22, s_11_23, s_11_26, s_11_27, s_11_30, s_11_33, s_11_36, s_11_37, s_11_40, s_11_43, s_11_46, s_11_47⟩
theorem s_12_0 {K : gC} : gOk K g_Ms mi_12 0 (ga_push (.int 0) 1) := gs_iconst (by decide +kernel : decode mi_12.2.1 0 = .ok (.iconst 0, 1)) (by decide) rfl
theorem s_12_1 {K : gC} : gOk K g_Ms mi_12 1 (ga_istore 2 2) := gs_istore_n (by decide +kernel : decode mi_12.2.1 1 = .ok (.istore_n 2, 1)) rfl rfl
theorem s_12_2 {K : gC} : gOk K g_Ms mi_12 2 (ga_push (.int 0) 3) := gs_iconst (by decide +kernel : decode mi_12.2.1 2 = .ok (.iconst 0, 1)) (by decide) rfl
theorem s_12_3 {K : gC} : gOk K g_Ms mi_12 3 (ga_istore 3 4) := gs_istore_n (by decide +kernel : decode mi_12.2.1 3 = .ok (.istore_n 3, 1)) rfl rfl
theorem s_12_4 {K : gC} : gOk K g_Ms mi_12 4 (ga_iload 3 5) := gs_iload_n (by decide +kernel : decode mi_12.2.1 4 = .ok (.iload_n 3, 1)) rfl rfl
theorem s_12_5 {K : gC} : gOk K g_Ms mi_12 5 (ga_aload 0 6) := gs_aload_n (by decide +kernel : decode mi_12.2.1 5 = .ok (.aload_n 0, 1)) rfl rfl
theorem s_12_6 {K : gC} : gOk K g_Ms mi_12 6 (ga_getR 1 0 9) := gs_getR gcls_1 (by decide) (by decide) gw_213 (by decide +kernel : decode mi_12.2.1 6 = .ok (.getfield 12, 3)) rfl
theorem s_12_9 {K : gC} : gOk K g_Ms mi_12 9 (ga_getI 0 4 12) := gs_getI gcls_0 (by decide) (by decide) gw_121 (by decide +kernel : decode mi_12.2.1 9 = .ok (.getfield 53, 3)) rfl
theorem s_12_12 {K : gC} : gOk K g_Ms mi_12 12 (ga_cmp (fun x y => decide (y ≤ x)) 37 15) := gs_cmp_ge (by decide +kernel : decode mi_12.2.1 12 = .ok (.if_icmp .ge 25, 3)) (by decide) rfl
theorem s_12_15 {K : gC} : gOk K g_Ms mi_12 15 (ga_aload 0 16) := gs_aload_n (by decide +kernel : decode mi_12.2.1 15 = .ok (.aload_n 0, 1)) rfl rfl
theorem s_12_16 {K : gC} : gOk K g_Ms mi_12 16 (ga_iload 1 17) := gs_iload_n (by decide +kernel : decode mi_12.2.1 16 = .ok (.iload_n 1, 1)) rfl rfl
theorem s_12_17 {K : gC} : gOk K g_Ms mi_12 17 (ga_iload 3 18) := gs_iload_n (by decide +kernel : decode mi_12.2.1 17 = .ok (.iload_n 3, 1)) rfl rfl
theorem s_12_18 {K : gC} : gOk K g_Ms mi_12 18 (ga_callV 1 10 2 21) := gs_callV gcls_1 (gce_X1_minutesTo (by decide) (by decide)) gw_526 gw_505 gw_506 (by decide +kernel : decode mi_12.2.1 18 = .ok (.invokevirtual 56, 3)) rfl
theorem s_12_21 {K : gC} : gOk K g_Ms mi_12 21 (ga_push (.int (-1)) 22) := gs_iconst (by decide +kernel : decode mi_12.2.1 21 = .ok (.iconst (-1), 1)) (by decide) rfl
theorem s_12_22 {K : gC} : gOk K g_Ms mi_12 22 (ga_cmp (fun x y => decide (x = y)) 31 25) := gs_cmp_eq (by decide +kernel : decode mi_12.2.1 22 = .ok (.if_icmp .eq 9, 3)) (by decide) rfl
theorem s_12_25 {K : gC} : gOk K g_Ms mi_12 25 (ga_iload 2 26) := gs_iload_n (by decide +kernel : decode mi_12.2.1 25 = .ok (.iload_n 2, 1)) rfl rfl
theorem s_12_26 {K : gC} : gOk K g_Ms mi_12 26 (ga_push (.int 1) 27) := gs_iconst (by decide +kernel : decode mi_12.2.1 26 = .ok (.iconst 1, 1)) (by decide) rfl
theorem s_12_27 {K : gC} : gOk K g_Ms mi_12 27 (ga_iload 3 28) := gs_iload_n (by decide +kernel : decode mi_12.2.1 27 = .ok (.iload_n 3, 1)) rfl rfl
theorem s_12_28 {K : gC} : gOk K g_Ms mi_12 28 (ga_bin (fun x y => x <<< (y &&& 31)) 29) := gs_ishl (by decide +kernel : decode mi_12.2.1 28 = .ok (.ishl, 1)) rfl
theorem s_12_29 {K : gC} : gOk K g_Ms mi_12 29 (ga_bin (fun x y => x ||| y) 30) := gs_ior (by decide +kernel : decode mi_12.2.1 29 = .ok (.ior, 1)) rfl
theorem s_12_30 {K : gC} : gOk K g_Ms mi_12 30 (ga_istore 2 31) := gs_istore_n (by decide +kernel : decode mi_12.2.1 30 = .ok (.istore_n 2, 1)) rfl rfl
theorem s_12_31 {K : gC} : gOk K g_Ms mi_12 31 (ga_iinc 3 1 34) := gs_iinc (by decide +kernel : decode mi_12.2.1 31 = .ok (.iinc 3 1, 3)) (by decide) rfl
theorem s_12_34 {K : gC} : gOk K g_Ms mi_12 34 (ga_goto 4) := gs_goto (by decide +kernel : decode mi_12.2.1 34 = .ok (.goto (-30), 3)) (by decide)
theorem s_12_37 {K : gC} : gOk K g_Ms mi_12 37 (ga_iload 2 38) := gs_iload_n (by decide +kernel : decode mi_12.2.1 37 = .ok (.iload_n 2, 1)) rfl rfl
theorem s_12_38 {K : gC} : gOk K g_Ms mi_12 38 (ga_iret) := gs_iret (by decide +kernel : decode mi_12.2.1 38 = .ok (.ireturn, 1)) rfl
theorem ok_12 {K : gC} : ∀ e ∈ t_12, gOk K g_Ms mi_12 e.1 e.2 := by
  unfold t_12
  simp only [List.forall_mem_cons, List.not_mem_nil, false_implies, implies_true, and_true]
  exact ⟨s_12_0, s_12_1, s_12_2, s_12_3, s_12_4, s_12_5, s_12_6, s_12_9, s_12_12, s_12_15, s_12_16, s_12_17, s_12_18, s_12_21, s_12_22, s_12_25, s_12_26, s_12_27, s_12_28, s_12_29, s_12_30, s_12_31, s_12_34, s_12_37, s_12_38⟩
theorem s_13_0 {K : gC} : gOk K g_Ms mi_13 0 (ga_aload 0 1) := gs_aload_n (by decide +kernel : decode mi_13.2.1 0 = .ok (.aload_n 0, 1)) rfl rfl
theorem s_13_1 {K : gC} : gOk K g_Ms mi_13 1 (ga_iload 1 2) := gs_iload_n (by decide +kernel : decode mi_13.2.1 1 = .ok (.iload_n 1, 1)) rfl rfl
theorem s_13_2 {K : gC} : gOk K g_Ms mi_13 2 (ga_callV 1 11 1 5) := gs_callV gcls_1 (gce_X1_roundMinutes (by decide) (by decide)) gw_514 gw_515 gw_516 (by decide +kernel : decode mi_13.2.1 2 = .ok (.invokevirtual 49, 3)) rfl
theorem s_13_5 {K : gC} : gOk K g_Ms mi_13 5 (ga_push (.int (-1)) 6) := gs_iconst (by decide +kernel : decode mi_13.2.1 5 = .ok (.iconst (-1), 1)) (by decide) rfl
theorem s_13_6 {K : gC} : gOk K g_Ms mi_13 6 (ga_cmp (fun x y => decide (x = y)) 11 9) := gs_cmp_eq (by decide +kernel : decode mi_13.2.1 6 = .ok (.if_icmp .eq 5, 3)) (by decide) rfl
theorem s_13_9 {K : gC} : gOk K g_Ms mi_13 9 (ga_push (.int (-1)) 10) := gs_iconst (by decide +kernel : decode mi_13.2.1 9 = .ok (.iconst (-1), 1)) (by decide) rfl
theorem s_13_10 {K : gC} : gOk K g_Ms mi_13 10 (ga_iret) := gs_iret (by decide +kernel : decode mi_13.2.1 10 = .ok (.ireturn, 1)) rfl
theorem s_13_11 {K : gC} : gOk K g_Ms mi_13 11 (ga_push (.int 0) 12) := gs_iconst (by decide +kernel : decode mi_13.2.1 11 = .ok (.iconst 0, 1)) (by decide) rfl
theorem s_13_12 {K : gC} : gOk K g_Ms mi_13 12 (ga_istore 2 13) := gs_istore_n (by decide +kernel : decode mi_13.2.1 12 = .ok (.istore_n 2, 1)) rfl rfl
theorem s_13_13 {K : gC} : gOk K g_Ms mi_13 13 (ga_push (.int 0) 14) := gs_iconst (by decide +kernel : decode mi_13.2.1 13 = .ok (.iconst 0, 1)) (by decide) rfl
theorem s_13_14 {K : gC} : gOk K g_Ms mi_13 14 (ga_istore 3 15) := gs_istore_n (by decide +kernel : decode mi_13.2.1 14 = .ok (.istore_n 3, 1)) rfl rfl
theorem s_13_15 {K : gC} : gOk K g_Ms mi_13 15 (ga_iload 3 16) := gs_iload_n (by decide +kernel : decode mi_13.2.1 15 = .ok (.iload_n 3, 1)) rfl rfl
theorem s_13_16 {K : gC} : gOk K g_Ms mi_13 16 (ga_aload 0 17) := gs_aload_n (by decide +kernel : decode mi_13.2.1 16 = .ok (.aload_n 0, 1)) rfl rfl
theorem s_13_17 {K : gC} : gOk K g_Ms mi_13 17 (ga_getR 1 0 20) := gs_getR gcls_1 (by decide) (by decide) gw_213 (by decide +kernel : decode mi_13.2.1 17 = .ok (.getfield 12, 3)) rfl
theorem s_13_20 {K : gC} : gOk K g_Ms mi_13 20 (ga_getI 0 4 23) := gs_getI gcls_0 (by decide) (by decide) gw_121 (by decide +kernel : decode mi_13.2.1 20 = .ok (.getfield 53, 3)) rfl
theorem s_13_23 {K : gC} : gOk K g_Ms mi_13 23 (ga_cmp (fun x y => decide (y ≤ x)) 43 26) := gs_cmp_ge (by decide +kernel : decode mi_13.2.1 23 = .ok (.if_icmp .ge 20, 3)) (by decide) rfl
theorem s_13_26 {K : gC} : gOk K g_Ms mi_13 26 (ga_iload 2 27) := gs_iload_n (by decide +kernel : decode mi_13.2.1 26 = .ok (.iload_n 2, 1)) rfl rfl
theorem s_13_27 {K : gC} : gOk K g_Ms mi_13 27 (ga_aload 0 28) := gs_aload_n (by decide +kernel : decode mi_13.2.1 27 = .ok (.aload_n 0, 1)) rfl rfl
theorem s_13_28 {K : gC} : gOk K g_Ms mi_13 28 (ga_iload 1 29) := gs_iload_n (by decide +kernel : decode mi_13.2.1 28 = .ok (.iload_n 1, 1)) rfl rfl
theorem s_13_29 {K : gC} : gOk K g_Ms mi_13 29 (ga_iload 3 30) := gs_iload_n (by decide +kernel : decode mi_13.2.1 29 = .ok (.iload_n 3, 1)) rfl rfl
theorem s_13_30 {K : gC} : gOk K g_Ms mi_13 30 (ga_callV 1 10 2 33) := gs_callV gcls_1 (gce_X1_minutesTo (by decide) (by decide)) gw_526 gw_505 gw_506 (by decide +kernel : decode mi_13.2.1 30 = .ok (.invokevirtual 56, 3)) rfl
theorem s_13_33 {K : gC} : gOk K g_Ms mi_13 33 (ga_max 36) := gs_max gw_535 gw_536 gw_52 gw_max (by decide) (by decide) (by decide +kernel : decode mi_13.2.1 33 = .ok (.invokestatic 60, 3)) rfl
theorem s_13_36 {K : gC} : gOk K g_Ms mi_13 36 (ga_istore 2 37) := gs_istore_n (by decide +kernel : decode mi_13.2.1 36 = .ok (.istore_n 2, 1)) rfl rfl
theorem s_13_37 {K : gC} : gOk K g_Ms mi_13 37 (ga_iinc 3 1 40) := gs_iinc (by decide +kernel : decode mi_13.2.1 37 = .ok (.iinc 3 1, 3)) (by decide) rfl
theorem s_13_40 {K : gC} : gOk K g_Ms mi_13 40 (ga_goto 15) := gs_goto (by decide +kernel : decode mi_13.2.1 40 = .ok (.goto (-25), 3)) (by decide)
theorem s_13_43 {K : gC} : gOk K g_Ms mi_13 43 (ga_iload 2 44) := gs_iload_n (by decide +kernel : decode mi_13.2.1 43 = .ok (.iload_n 2, 1)) rfl rfl
theorem s_13_44 {K : gC} : gOk K g_Ms mi_13 44 (ga_iret) := gs_iret (by decide +kernel : decode mi_13.2.1 44 = .ok (.ireturn, 1)) rfl
theorem ok_13 {K : gC} : ∀ e ∈ t_13, gOk K g_Ms mi_13 e.1 e.2 := by
  unfold t_13
  simp only [List.forall_mem_cons, List.not_mem_nil, false_implies, implies_true, and_true]
  exact ⟨s_13_0, s_13_1, s_13_2, s_13_5, s_13_6, s_13_9, s_13_10, s_13_11, s_13_12, s_13_13, s_13_14, s_13_15, s_13_16, s_13_17, s_13_20, s_13_23, s_13_26, s_13_27, s_13_28, s_13_29, s_13_30, s_13_33, s_13_36, s_13_37, s_13_40, s_13_43, s_13_44⟩
theorem s_14_0 {K : gC} : gOk K g_Ms mi_14 0 (ga_aload 0 1) := gs_aload_n (by decide +kernel : decode mi_14.2.1 0 = .ok (.aload_n 0, 1)) rfl rfl
theorem s_14_1 {K : gC} : gOk K g_Ms mi_14 1 (ga_getR 1 2 4) := gs_getR gcls_1 (by decide) (by decide) gw_215 (by decide +kernel : decode mi_14.2.1 1 = .ok (.getfield 25, 3)) rfl
theorem s_14_4 {K : gC} : gOk K g_Ms mi_14 4 (ga_aload 0 5) := gs_aload_n (by decide +kernel : decode mi_14.2.1 4 = .ok (.aload_n 0, 1)) rfl rfl
theorem s_14_5 {K : gC} : gOk K g_Ms mi_14 5 (ga_getR 1 0 8) := gs_getR gcls_1 (by decide) (by decide) gw_213 (by decide +kernel : decode mi_14.2.1 5 = .ok (.getfield 12, 3)) rfl
theorem s_14_8 {K : gC} : gOk K g_Ms mi_14 8 (ga_aload 0 9) := gs_aload_n (by decide +kernel : decode mi_14.2.1 8 = .ok (.aload_n 0, 1)) rfl rfl
theorem s_14_9 {K : gC} : gOk K g_Ms mi_14 9 (ga_getI 1 3 12) := gs_getI gcls_1 (by decide) (by decide) gw_216 (by decide +kernel : decode mi_14.2.1 9 = .ok (.getfield 32, 3)) rfl
theorem s_14_12 {K : gC} : gOk K g_Ms mi_14 12 (ga_aload 0 13) := gs_aload_n (by decide +kernel : decode mi_14.2.1 12 = .ok (.aload_n 0, 1)) rfl rfl
theorem s_14_13 {K : gC} : gOk K g_Ms mi_14 13 (ga_getI 1 4 16) := gs_getI gcls_1 (by decide) (by decide) gw_217 (by decide +kernel : decode mi_14.2.1 13 = .ok (.getfield 36, 3)) rfl
theorem s_14_16 {K : gC} : gOk K g_Ms mi_14 16 (ga_iload 1 17) := gs_iload_n (by decide +kernel : decode mi_14.2.1 16 = .ok (.iload_n 1, 1)) rfl rfl
theorem s_14_17 {K : gC} : gOk K g_Ms mi_14 17 (ga_iload 1 18) := gs_iload_n (by decide +kernel : decode mi_14.2.1 17 = .ok (.iload_n 1, 1)) rfl rfl
theorem s_14_18 {K : gC} : gOk K g_Ms mi_14 18 (ga_callV 5 51 5 21) := gs_callV gcls_5 (gce_X5_trace (by decide) (by decide)) gw_508 gw_509 gw_510 (by decide +kernel : decode mi_14.2.1 18 = .ok (.invokevirtual 39, 3)) rfl
theorem s_14_21 {K : gC} : gOk K g_Ms mi_14 21 (ga_istore 4 23) := gs_istore (by decide +kernel : decode mi_14.2.1 21 = .ok (.istore 4, 2)) rfl
theorem s_14_23 {K : gC} : gOk K g_Ms mi_14 23 (ga_iload 4 25) := gs_iload (by decide +kernel : decode mi_14.2.1 23 = .ok (.iload 4, 2)) rfl
theorem s_14_25 {K : gC} : gOk K g_Ms mi_14 25 (ga_if (fun x => decide (x = 0)) 40 28) := gs_if_eq (by decide +kernel : decode mi_14.2.1 25 = .ok (.ifCond .eq 15, 3)) (by decide) rfl
theorem s_14_28 {K : gC} : gOk K g_Ms mi_14 28 (ga_aload 0 29) := gs_aload_n (by decide +kernel : decode mi_14.2.1 28 = .ok (.aload_n 0, 1)) rfl rfl
theorem s_14_29 {K : gC} : gOk K g_Ms mi_14 29 (ga_getR 1 2 32) := gs_getR gcls_1 (by decide) (by decide) gw_215 (by decide +kernel : decode mi_14.2.1 29 = .ok (.getfield 25, 3)) rfl
theorem s_14_32 {K : gC} : gOk K g_Ms mi_14 32 (ga_getI 5 1 35) := gs_getI gcls_5 (by decide) (by decide) gw_203 (by decide +kernel : decode mi_14.2.1 32 = .ok (.getfield 43, 3)) rfl
theorem s_14_35 {K : gC} : gOk K g_Ms mi_14 35 (ga_if (fun x => decide (¬ x = 0)) 40 38) := gs_if_ne (by decide +kernel : decode mi_14.2.1 35 = .ok (.ifCond .ne 5, 3)) (by decide) rfl
theorem s_14_38 {K : gC} : gOk K g_Ms mi_14 38 (ga_push (.int (-1)) 39) := gs_iconst (by decide +kernel : decode mi_14.2.1 38 = .ok (.iconst (-1), 1)) (by decide) rfl
theorem s_14_39 {K : gC} : gOk K g_Ms mi_14 39 (ga_iret) := gs_iret (by decide +kernel : decode mi_14.2.1 39 = .ok (.ireturn, 1)) rfl
theorem s_14_40 {K : gC} : gOk K g_Ms mi_14 40 (ga_iload 4 42) := gs_iload (by decide +kernel : decode mi_14.2.1 40 = .ok (.iload 4, 2)) rfl
theorem s_14_42 {K : gC} : gOk K g_Ms mi_14 42 (ga_if (fun x => decide (x = 0)) 59 45) := gs_if_eq (by decide +kernel : decode mi_14.2.1 42 = .ok (.ifCond .eq 17, 3)) (by decide) rfl
theorem s_14_45 {K : gC} : gOk K g_Ms mi_14 45 (ga_iload 3 46) := gs_iload_n (by decide +kernel : decode mi_14.2.1 45 = .ok (.iload_n 3, 1)) rfl rfl
theorem s_14_46 {K : gC} : gOk K g_Ms mi_14 46 (ga_aload 0 47) := gs_aload_n (by decide +kernel : decode mi_14.2.1 46 = .ok (.aload_n 0, 1)) rfl rfl
theorem s_14_47 {K : gC} : gOk K g_Ms mi_14 47 (ga_getR 1 2 50) := gs_getR gcls_1 (by decide) (by decide) gw_215 (by decide +kernel : decode mi_14.2.1 47 = .ok (.getfield 25, 3)) rfl
theorem s_14_50 {K : gC} : gOk K g_Ms mi_14 50 (ga_getI 5 1 53) := gs_getI gcls_5 (by decide) (by decide) gw_203 (by decide +kernel : decode mi_14.2.1 50 = .ok (.getfield 43, 3)) rfl
theorem s_14_53 {K : gC} : gOk K g_Ms mi_14 53 (ga_call 15 2 56) := gs_callS (gce_X1_strokesInRing (by decide) (by decide)) gw_551 gw_552 (by decide +kernel : decode mi_14.2.1 53 = .ok (.invokestatic 65, 3)) rfl
theorem s_14_56 {K : gC} : gOk K g_Ms mi_14 56 (ga_goto 60) := gs_goto (by decide +kernel : decode mi_14.2.1 56 = .ok (.goto 4, 3)) (by decide)
theorem s_14_59 {K : gC} : gOk K g_Ms mi_14 59 (ga_iload 3 60) := gs_iload_n (by decide +kernel : decode mi_14.2.1 59 = .ok (.iload_n 3, 1)) rfl rfl
theorem s_14_60 {K : gC} : gOk K g_Ms mi_14 60 (ga_istore 5 62) := gs_istore (by decide +kernel : decode mi_14.2.1 60 = .ok (.istore 5, 2)) rfl
theorem s_14_62 {K : gC} : gOk K g_Ms mi_14 62 (ga_iload 2 63) := gs_iload_n (by decide +kernel : decode mi_14.2.1 62 = .ok (.iload_n 2, 1)) rfl rfl
theorem s_14_63 {K : gC} : gOk K g_Ms mi_14 63 (ga_iload 1 64) := gs_iload_n (by decide +kernel : decode mi_14.2.1 63 = .ok (.iload_n 1, 1)) rfl rfl
theorem s_14_64 {K : gC} : gOk K g_Ms mi_14 64 (ga_cmp (fun x y => decide (¬ x = y)) 70 67) := gs_cmp_ne (by decide +kernel : decode mi_14.2.1 64 = .ok (.if_icmp .ne 6, 3)) (by decide) rfl
theorem s_14_67 {K : gC} : gOk K g_Ms mi_14 67 (ga_iload 5 69) := gs_iload (by decide +kernel : decode mi_14.2.1 67 = .ok (.iload 5, 2)) rfl
theorem s_14_69 {K : gC} : gOk K g_Ms mi_14 69 (ga_iret) := gs_iret (by decide +kernel : decode mi_14.2.1 69 = .ok (.ireturn, 1)) rfl
theorem s_14_70 {K : gC} : gOk K g_Ms mi_14 70 (ga_aload 0 71) := gs_aload_n (by decide +kernel : decode mi_14.2.1 70 = .ok (.aload_n 0, 1)) rfl rfl
theorem s_14_71 {K : gC} : gOk K g_Ms mi_14 71 (ga_getR 1 1 74) := gs_getR gcls_1 (by decide) (by decide) gw_214 (by decide +kernel : decode mi_14.2.1 71 = .ok (.getfield 21, 3)) rfl
theorem s_14_74 {K : gC} : gOk K g_Ms mi_14 74 (ga_aload 0 75) := gs_aload_n (by decide +kernel : decode mi_14.2.1 74 = .ok (.aload_n 0, 1)) rfl rfl
theorem s_14_75 {K : gC} : gOk K g_Ms mi_14 75 (ga_getR 1 0 78) := gs_getR gcls_1 (by decide) (by decide) gw_213 (by decide +kernel : decode mi_14.2.1 75 = .ok (.getfield 12, 3)) rfl
theorem s_14_78 {K : gC} : gOk K g_Ms mi_14 78 (ga_aload 0 79) := gs_aload_n (by decide +kernel : decode mi_14.2.1 78 = .ok (.aload_n 0, 1)) rfl rfl
theorem s_14_79 {K : gC} : gOk K g_Ms mi_14 79 (ga_getI 1 3 82) := gs_getI gcls_1 (by decide) (by decide) gw_216 (by decide +kernel : decode mi_14.2.1 79 = .ok (.getfield 32, 3)) rfl
theorem s_14_82 {K : gC} : gOk K g_Ms mi_14 82 (ga_aload 0 83) := gs_aload_n (by decide +kernel : decode mi_14.2.1 82 = .ok (.aload_n 0, 1)) rfl rfl
theorem s_14_83 {K : gC} : gOk K g_Ms mi_14 83 (ga_getI 1 4 86) := gs_getI gcls_1 (by decide) (by decide) gw_217 (by decide +kernel : decode mi_14.2.1 83 = .ok (.getfield 36, 3)) rfl
theorem s_14_86 {K : gC} : gOk K g_Ms mi_14 86 (ga_iload 1 87) := gs_iload_n (by decide +kernel : decode mi_14.2.1 86 = .ok (.iload_n 1, 1)) rfl rfl
theorem s_14_87 {K : gC} : gOk K g_Ms mi_14 87 (ga_iload 2 88) := gs_iload_n (by decide +kernel : decode mi_14.2.1 87 = .ok (.iload_n 2, 1)) rfl rfl
theorem s_14_88 {K : gC} : gOk K g_Ms mi_14 88 (ga_callV 5 51 5 91) := gs_callV gcls_5 (gce_X5_trace (by decide) (by decide)) gw_508 gw_509 gw_510 (by decide +kernel : decode mi_14.2.1 88 = .ok (.invokevirtual 39, 3)) rfl
theorem s_14_91 {K : gC} : gOk K g_Ms mi_14 91 (ga_if (fun x => decide (x = 0)) 107 94) := gs_if_eq (by decide +kernel : decode mi_14.2.1 91 = .ok (.ifCond .eq 16, 3)) (by decide) rfl
theorem s_14_94 {K : gC} : gOk K g_Ms mi_14 94 (ga_iload 5 96) := gs_iload (by decide +kernel : decode mi_14.2.1 94 = .ok (.iload 5, 2)) rfl
theorem s_14_96 {K : gC} : gOk K g_Ms mi_14 96 (ga_aload 0 97) := gs_aload_n (by decide +kernel : decode mi_14.2.1 96 = .ok (.aload_n 0, 1)) rfl rfl
theorem s_14_97 {K : gC} : gOk K g_Ms mi_14 97 (ga_getR 1 1 100) := gs_getR gcls_1 (by decide) (by decide) gw_214 (by decide +kernel : decode mi_14.2.1 97 = .ok (.getfield 21, 3)) rfl
theorem s_14_100 {K : gC} : gOk K g_Ms mi_14 100 (ga_getI 5 1 103) := gs_getI gcls_5 (by decide) (by decide) gw_203 (by decide +kernel : decode mi_14.2.1 100 = .ok (.getfield 43, 3)) rfl
theorem s_14_103 {K : gC} : gOk K g_Ms mi_14 103 (ga_bin (fun x y => x >>> (y &&& 31)) 104) := gs_ishr (by decide +kernel : decode mi_14.2.1 103 = .ok (.ishr, 1)) rfl
theorem s_14_104 {K : gC} : gOk K g_Ms mi_14 104 (ga_goto 108) := gs_goto (by decide +kernel : decode mi_14.2.1 104 = .ok (.goto 4, 3)) (by decide)
theorem s_14_107 {K : gC} : gOk K g_Ms mi_14 107 (ga_push (.int 0) 108) := gs_iconst (by decide +kernel : decode mi_14.2.1 107 = .ok (.iconst 0, 1)) (by decide) rfl
theorem s_14_108 {K : gC} : gOk K g_Ms mi_14 108 (ga_iret) := gs_iret (by decide +kernel : decode mi_14.2.1 108 = .ok (.ireturn, 1)) rfl
theorem ok_14 {K : gC} : ∀ e ∈ t_14, gOk K g_Ms mi_14 e.1 e.2 := by
  unfold t_14
  simp only [List.forall_mem_cons, List.not_mem_nil, false_implies, implies_true, and_true]
  exact ⟨s_14_0, s_14_1, s_14_4, s_14_5, s_14_8, s_14_9, s_14_12, s_14_13, s_14_16, s_14_17, s_14_18, s_14_21, s_14_23, s_14_25, s_14_28, s_14_29, s_14_32, s_14_35, s_14_38, s_14_39, s_14_40, s_14_42, s_14_45, s_14_46, s_14_47, s_14_50, s_14_53, s_14_56, s_14_59, s_14_60, s_14_62, s_14_63, s_14_64, s_14_67, s_14_69, s_14_70, s_14_71, s_14_74, s_14_75, s_14_78, s_14_79, s_14_82, s_14_83, s_14_86, s_14_87, s_14_88, s_14_91, s_14_94, s_14_96, s_14_97, s_14_100, s_14_103, s_14_104, s_14_107, s_14_108⟩
theorem s_15_0 {K : gC} : gOk K g_Ms mi_15 0 (ga_push (.int 1) 1) := gs_iconst (by decide +kernel : decode mi_15.2.1 0 = .ok (.iconst 1, 1)) (by decide) rfl
theorem s_15_1 {K : gC} : gOk K g_Ms mi_15 1 (ga_iload 1 2) := gs_iload_n (by decide +kernel : decode mi_15.2.1 1 = .ok (.iload_n 1, 1)) rfl rfl
theorem s_15_2 {K : gC} : gOk K g_Ms mi_15 2 (ga_bin (fun x y => x <<< (y &&& 31)) 3) := gs_ishl (by decide +kernel : decode mi_15.2.1 2 = .ok (.ishl, 1)) rfl
theorem s_15_3 {K : gC} : gOk K g_Ms mi_15 3 (ga_push (.int 1) 4) := gs_iconst (by decide +kernel : decode mi_15.2.1 3 = .ok (.iconst 1, 1)) (by decide) rfl
theorem s_15_4 {K : gC} : gOk K g_Ms mi_15 4 (ga_bin (fun x y => x - y) 5) := gs_isub (by decide +kernel : decode mi_15.2.1 4 = .ok (.isub, 1)) rfl
theorem s_15_5 {K : gC} : gOk K g_Ms mi_15 5 (ga_istore 2 6) := gs_istore_n (by decide +kernel : decode mi_15.2.1 5 = .ok (.istore_n 2, 1)) rfl rfl
theorem s_15_6 {K : gC} : gOk K g_Ms mi_15 6 (ga_push (.int 0) 7) := gs_iconst (by decide +kernel : decode mi_15.2.1 6 = .ok (.iconst 0, 1)) (by decide) rfl
theorem s_15_7 {K : gC} : gOk K g_Ms mi_15 7 (ga_istore 3 8) := gs_istore_n (by decide +kernel : decode mi_15.2.1 7 = .ok (.istore_n 3, 1)) rfl rfl
theorem s_15_8 {K : gC} : gOk K g_Ms mi_15 8 (ga_push (.int 0) 9) := gs_iconst (by decide +kernel : decode mi_15.2.1 8 = .ok (.iconst 0, 1)) (by decide) rfl
theorem s_15_9 {K : gC} : gOk K g_Ms mi_15 9 (ga_istore 4 11) := gs_istore (by decide +kernel : decode mi_15.2.1 9 = .ok (.istore 4, 2)) rfl
theorem s_15_11 {K : gC} : gOk K g_Ms mi_15 11 (ga_iload 4 13) := gs_iload (by decide +kernel : decode mi_15.2.1 11 = .ok (.iload 4, 2)) rfl
theorem s_15_13 {K : gC} : gOk K g_Ms mi_15 13 (ga_iload 0 14) := gs_iload_n (by decide +kernel : decode mi_15.2.1 13 = .ok (.iload_n 0, 1)) rfl rfl
theorem s_15_14 {K : gC} : gOk K g_Ms mi_15 14 (ga_cmp (fun x y => decide (y ≤ x)) 35 17) := gs_cmp_ge (by decide +kernel : decode mi_15.2.1 14 = .ok (.if_icmp .ge 21, 3)) (by decide) rfl
theorem s_15_17 {K : gC} : gOk K g_Ms mi_15 17 (ga_iinc 3 1 20) := gs_iinc (by decide +kernel : decode mi_15.2.1 17 = .ok (.iinc 3 1, 3)) (by decide) rfl
theorem s_15_20 {K : gC} : gOk K g_Ms mi_15 20 (ga_iload 3 21) := gs_iload_n (by decide +kernel : decode mi_15.2.1 20 = .ok (.iload_n 3, 1)) rfl rfl
theorem s_15_21 {K : gC} : gOk K g_Ms mi_15 21 (ga_iload 2 22) := gs_iload_n (by decide +kernel : decode mi_15.2.1 21 = .ok (.iload_n 2, 1)) rfl rfl
theorem s_15_22 {K : gC} : gOk K g_Ms mi_15 22 (ga_bin (fun x y => x &&& y) 23) := gs_iand (by decide +kernel : decode mi_15.2.1 22 = .ok (.iand, 1)) rfl
theorem s_15_23 {K : gC} : gOk K g_Ms mi_15 23 (ga_if (fun x => decide (¬ x = 0)) 29 26) := gs_if_ne (by decide +kernel : decode mi_15.2.1 23 = .ok (.ifCond .ne 6, 3)) (by decide) rfl
theorem s_15_26 {K : gC} : gOk K g_Ms mi_15 26 (ga_iinc 3 1 29) := gs_iinc (by decide +kernel : decode mi_15.2.1 26 = .ok (.iinc 3 1, 3)) (by decide) rfl
theorem s_15_29 {K : gC} : gOk K g_Ms mi_15 29 (ga_iinc 4 1 32) := gs_iinc (by decide +kernel : decode mi_15.2.1 29 = .ok (.iinc 4 1, 3)) (by decide) rfl
theorem s_15_32 {K : gC} : gOk K g_Ms mi_15 32 (ga_goto 11) := gs_goto (by decide +kernel : decode mi_15.2.1 32 = .ok (.goto (-21), 3)) (by decide)
theorem s_15_35 {K : gC} : gOk K g_Ms mi_15 35 (ga_iload 3 36) := gs_iload_n (by decide +kernel : decode mi_15.2.1 35 = .ok (.iload_n 3, 1)) rfl rfl
theorem s_15_36 {K : gC} : gOk K g_Ms mi_15 36 (ga_iret) := gs_iret (by decide +kernel : decode mi_15.2.1 36 = .ok (.ireturn, 1)) rfl
theorem ok_15 {K : gC} : ∀ e ∈ t_15, gOk K g_Ms mi_15 e.1 e.2 := by
  unfold t_15
  simp only [List.forall_mem_cons, List.not_mem_nil, false_implies, implies_true, and_true]
  exact ⟨s_15_0, s_15_1, s_15_2, s_15_3, s_15_4, s_15_5, s_15_6, s_15_7, s_15_8, s_15_9, s_15_11, s_15_13, s_15_14, s_15_17, s_15_20, s_15_21, s_15_22, s_15_23, s_15_26, s_15_29, s_15_32, s_15_35, s_15_36⟩
theorem s_16_0 {K : gC} : gOk K g_Ms mi_16 0 (ga_aload 0 1) := gs_aload_n (by decide +kernel : decode mi_16.2.1 0 = .ok (.aload_n 0, 1)) rfl rfl
theorem s_16_1 {K : gC} : gOk K g_Ms mi_16 1 (ga_iload 1 2) := gs_iload_n (by decide +kernel : decode mi_16.2.1 1 = .ok (.iload_n 1, 1)) rfl rfl
theorem s_16_2 {K : gC} : gOk K g_Ms mi_16 2 (ga_iload 2 3) := gs_iload_n (by decide +kernel : decode mi_16.2.1 2 = .ok (.iload_n 2, 1)) rfl rfl
theorem s_16_3 {K : gC} : gOk K g_Ms mi_16 3 (ga_callV 1 10 2 6) := gs_callV gcls_1 (gce_X1_minutesTo (by decide) (by decide)) gw_526 gw_505 gw_506 (by decide +kernel : decode mi_16.2.1 3 = .ok (.invokevirtual 56, 3)) rfl
theorem s_16_6 {K : gC} : gOk K g_Ms mi_16 6 (ga_istore 4 8) := gs_istore (by decide +kernel : decode mi_16.2.1 6 = .ok (.istore 4, 2)) rfl
theorem s_16_8 {K : gC} : gOk K g_Ms mi_16 8 (ga_aload 0 9) := gs_aload_n (by decide +kernel : decode mi_16.2.1 8 = .ok (.aload_n 0, 1)) rfl rfl
theorem s_16_9 {K : gC} : gOk K g_Ms mi_16 9 (ga_iload 1 10) := gs_iload_n (by decide +kernel : decode mi_16.2.1 9 = .ok (.iload_n 1, 1)) rfl rfl
theorem s_16_10 {K : gC} : gOk K g_Ms mi_16 10 (ga_iload 3 11) := gs_iload_n (by decide +kernel : decode mi_16.2.1 10 = .ok (.iload_n 3, 1)) rfl rfl
theorem s_16_11 {K : gC} : gOk K g_Ms mi_16 11 (ga_callV 1 10 2 14) := gs_callV gcls_1 (gce_X1_minutesTo (by decide) (by decide)) gw_526 gw_505 gw_506 (by decide +kernel : decode mi_16.2.1 11 = .ok (.invokevirtual 56, 3)) rfl
theorem s_16_14 {K : gC} : gOk K g_Ms mi_16 14 (ga_istore 5 16) := gs_istore (by decide +kernel : decode mi_16.2.1 14 = .ok (.istore 5, 2)) rfl
theorem s_16_16 {K : gC} : gOk K g_Ms mi_16 16 (ga_iload 4 18) := gs_iload (by decide +kernel : decode mi_16.2.1 16 = .ok (.iload 4, 2)) rfl
theorem s_16_18 {K : gC} : gOk K g_Ms mi_16 18 (ga_push (.int (-1)) 19) := gs_iconst (by decide +kernel : decode mi_16.2.1 18 = .ok (.iconst (-1), 1)) (by decide) rfl
theorem s_16_19 {K : gC} : gOk K g_Ms mi_16 19 (ga_cmp (fun x y => decide (x = y)) 28 22) := gs_cmp_eq (by decide +kernel : decode mi_16.2.1 19 = .ok (.if_icmp .eq 9, 3)) (by decide) rfl
theorem s_16_22 {K : gC} : gOk K g_Ms mi_16 22 (ga_iload 5 24) := gs_iload (by decide +kernel : decode mi_16.2.1 22 = .ok (.iload 5, 2)) rfl
theorem s_16_24 {K : gC} : gOk K g_Ms mi_16 24 (ga_push (.int (-1)) 25) := gs_iconst (by decide +kernel : decode mi_16.2.1 24 = .ok (.iconst (-1), 1)) (by decide) rfl
theorem s_16_25 {K : gC} : gOk K g_Ms mi_16 25 (ga_cmp (fun x y => decide (¬ x = y)) 32 28) := gs_cmp_ne (by decide +kernel : decode mi_16.2.1 25 = .ok (.if_icmp .ne 7, 3)) (by decide) rfl
theorem s_16_28 {K : gC} : gOk K g_Ms mi_16 28 (ga_push (.int (-1)) 29) := gs_iconst (by decide +kernel : decode mi_16.2.1 28 = .ok (.iconst (-1), 1)) (by decide) rfl
theorem s_16_29 {K : gC} : gOk K g_Ms mi_16 29 (ga_goto 40) := gs_goto (by decide +kernel : decode mi_16.2.1 29 = .ok (.goto 11, 3)) (by decide)
theorem s_16_32 {K : gC} : gOk K g_Ms mi_16 32 (ga_iload 4 34) := gs_iload (by decide +kernel : decode mi_16.2.1 32 = .ok (.iload 4, 2)) rfl
theorem s_16_34 {K : gC} : gOk K g_Ms mi_16 34 (ga_iload 5 36) := gs_iload (by decide +kernel : decode mi_16.2.1 34 = .ok (.iload 5, 2)) rfl
theorem s_16_36 {K : gC} : gOk K g_Ms mi_16 36 (ga_bin (fun x y => x - y) 37) := gs_isub (by decide +kernel : decode mi_16.2.1 36 = .ok (.isub, 1)) rfl
theorem s_16_37 {K : gC} : gOk K g_Ms mi_16 37 (ga_abs 40) := gs_abs gw_562 gw_563 gw_52 gw_abs (by decide) (by decide) (by decide +kernel : decode mi_16.2.1 37 = .ok (.invokestatic 68, 3)) rfl
theorem s_16_40 {K : gC} : gOk K g_Ms mi_16 40 (ga_iret) := gs_iret (by decide +kernel : decode mi_16.2.1 40 = .ok (.ireturn, 1)) rfl
theorem ok_16 {K : gC} : ∀ e ∈ t_16, gOk K g_Ms mi_16 e.1 e.2 := by
  unfold t_16
  simp only [List.forall_mem_cons, List.not_mem_nil, false_implies, implies_true, and_true]
  exact ⟨s_16_0, s_16_1, s_16_2, s_16_3, s_16_6, s_16_8, s_16_9, s_16_10, s_16_11, s_16_14, s_16_16, s_16_18, s_16_19, s_16_22, s_16_24, s_16_25, s_16_28, s_16_29, s_16_32, s_16_34, s_16_36, s_16_37, s_16_40⟩
theorem s_17_0 {K : gC} : gOk K g_Ms mi_17 0 (ga_iload 2 1) := gs_iload_n (by decide +kernel : decode mi_17.2.1 0 = .ok (.iload_n 2, 1)) rfl rfl
theorem s_17_1 {K : gC} : gOk K g_Ms mi_17 1 (ga_iload 1 2) := gs_iload_n (by decide +kernel : decode mi_17.2.1 1 = .ok (.iload_n 1, 1)) rfl rfl
theorem s_17_2 {K : gC} : gOk K g_Ms mi_17 2 (ga_cmp (fun x y => decide (¬ x = y)) 7 5) := gs_cmp_ne (by decide +kernel : decode mi_17.2.1 2 = .ok (.if_icmp .ne 5, 3)) (by decide) rfl
theorem s_17_5 {K : gC} : gOk K g_Ms mi_17 5 (ga_push (.int 0) 6) := gs_iconst (by decide +kernel : decode mi_17.2.1 5 = .ok (.iconst 0, 1)) (by decide) rfl
theorem s_17_6 {K : gC} : gOk K g_Ms mi_17 6 (ga_iret) := gs_iret (by decide +kernel : decode mi_17.2.1 6 = .ok (.ireturn, 1)) rfl
theorem s_17_7 {K : gC} : gOk K g_Ms mi_17 7 (ga_aload 0 8) := gs_aload_n (by decide +kernel : decode mi_17.2.1 7 = .ok (.aload_n 0, 1)) rfl rfl
theorem s_17_8 {K : gC} : gOk K g_Ms mi_17 8 (ga_iload 1 9) := gs_iload_n (by decide +kernel : decode mi_17.2.1 8 = .ok (.iload_n 1, 1)) rfl rfl
theorem s_17_9 {K : gC} : gOk K g_Ms mi_17 9 (ga_iload 2 10) := gs_iload_n (by decide +kernel : decode mi_17.2.1 9 = .ok (.iload_n 2, 1)) rfl rfl
theorem s_17_10 {K : gC} : gOk K g_Ms mi_17 10 (ga_callV 1 10 2 13) := gs_callV gcls_1 (gce_X1_minutesTo (by decide) (by decide)) gw_526 gw_505 gw_506 (by decide +kernel : decode mi_17.2.1 10 = .ok (.invokevirtual 56, 3)) rfl
theorem s_17_13 {K : gC} : gOk K g_Ms mi_17 13 (ga_push (.int (-1)) 14) := gs_iconst (by decide +kernel : decode mi_17.2.1 13 = .ok (.iconst (-1), 1)) (by decide) rfl
theorem s_17_14 {K : gC} : gOk K g_Ms mi_17 14 (ga_cmp (fun x y => decide (¬ x = y)) 21 17) := gs_cmp_ne (by decide +kernel : decode mi_17.2.1 14 = .ok (.if_icmp .ne 7, 3)) (by decide) rfl
theorem s_17_17 {K : gC} : gOk K g_Ms mi_17 17 (ga_push (.int (-1)) 18) := gs_iconst (by decide +kernel : decode mi_17.2.1 17 = .ok (.iconst (-1), 1)) (by decide) rfl
theorem s_17_18 {K : gC} : gOk K g_Ms mi_17 18 (ga_goto 28) := gs_goto (by decide +kernel : decode mi_17.2.1 18 = .ok (.goto 10, 3)) (by decide)
theorem s_17_21 {K : gC} : gOk K g_Ms mi_17 21 (ga_aload 0 22) := gs_aload_n (by decide +kernel : decode mi_17.2.1 21 = .ok (.aload_n 0, 1)) rfl rfl
theorem s_17_22 {K : gC} : gOk K g_Ms mi_17 22 (ga_getR 1 1 25) := gs_getR gcls_1 (by decide) (by decide) gw_214 (by decide +kernel : decode mi_17.2.1 22 = .ok (.getfield 21, 3)) rfl
theorem s_17_25 {K : gC} : gOk K g_Ms mi_17 25 (ga_getI 5 2 28) := gs_getI gcls_5 (by decide) (by decide) gw_205 (by decide +kernel : decode mi_17.2.1 25 = .ok (.getfield 71, 3)) rfl
theorem s_17_28 {K : gC} : gOk K g_Ms mi_17 28 (ga_iret) := gs_iret (by decide +kernel : decode mi_17.2.1 28 = .ok (.ireturn, 1)) rfl
theorem ok_17 {K : gC} : ∀ e ∈ t_17, gOk K g_Ms mi_17 e.1 e.2 := by
  unfold t_17
  simp only [List.forall_mem_cons, List.not_mem_nil, false_implies, implies_true, and_true]
  exact ⟨s_17_0, s_17_1, s_17_2, s_17_5, s_17_6, s_17_7, s_17_8, s_17_9, s_17_10, s_17_13, s_17_14, s_17_17, s_17_18, s_17_21, s_17_22, s_17_25, s_17_28⟩
theorem s_18_0 {K : gC} : gOk K g_Ms mi_18 0 (ga_aload 0 1) := gs_aload_n (by decide +kernel : decode mi_18.2.1 0 = .ok (.aload_n 0, 1)) rfl rfl
theorem s_18_1 {K : gC} : gOk K g_Ms mi_18 1 (ga_callV 1 20 0 4) := gs_callV gcls_1 (gce_X1_forgetBest (by decide) (by decide)) gw_573 gw_575 gw_12 (by decide +kernel : decode mi_18.2.1 1 = .ok (.invokevirtual 74, 3)) rfl
theorem s_18_4 {K : gC} : gOk K g_Ms mi_18 4 (ga_aload 0 5) := gs_aload_n (by decide +kernel : decode mi_18.2.1 4 = .ok (.aload_n 0, 1)) rfl rfl
theorem s_18_5 {K : gC} : gOk K g_Ms mi_18 5 (ga_iload 1 6) := gs_iload_n (by decide +kernel : decode mi_18.2.1 5 = .ok (.iload_n 1, 1)) rfl rfl
theorem s_18_6 {K : gC} : gOk K g_Ms mi_18 6 (ga_iload 2 7) := gs_iload_n (by decide +kernel : decode mi_18.2.1 6 = .ok (.iload_n 2, 1)) rfl rfl
theorem s_18_7 {K : gC} : gOk K g_Ms mi_18 7 (ga_iload 3 8) := gs_iload_n (by decide +kernel : decode mi_18.2.1 7 = .ok (.iload_n 3, 1)) rfl rfl
theorem s_18_8 {K : gC} : gOk K g_Ms mi_18 8 (ga_callV 1 16 3 11) := gs_callV gcls_1 (gce_X1_minutesBetween (by decide) (by decide)) gw_581 gw_559 gw_560 (by decide +kernel : decode mi_18.2.1 8 = .ok (.invokevirtual 77, 3)) rfl
theorem s_18_11 {K : gC} : gOk K g_Ms mi_18 11 (ga_istore 4 13) := gs_istore (by decide +kernel : decode mi_18.2.1 11 = .ok (.istore 4, 2)) rfl
theorem s_18_13 {K : gC} : gOk K g_Ms mi_18 13 (ga_push (.int 0) 14) := gs_iconst (by decide +kernel : decode mi_18.2.1 13 = .ok (.iconst 0, 1)) (by decide) rfl
theorem s_18_14 {K : gC} : gOk K g_Ms mi_18 14 (ga_istore 5 16) := gs_istore (by decide +kernel : decode mi_18.2.1 14 = .ok (.istore 5, 2)) rfl
theorem s_18_16 {K : gC} : gOk K g_Ms mi_18 16 (ga_iload 5 18) := gs_iload (by decide +kernel : decode mi_18.2.1 16 = .ok (.iload 5, 2)) rfl
theorem s_18_18 {K : gC} : gOk K g_Ms mi_18 18 (ga_aload 0 19) := gs_aload_n (by decide +kernel : decode mi_18.2.1 18 = .ok (.aload_n 0, 1)) rfl rfl
theorem s_18_19 {K : gC} : gOk K g_Ms mi_18 19 (ga_getR 1 0 22) := gs_getR gcls_1 (by decide) (by decide) gw_213 (by decide +kernel : decode mi_18.2.1 19 = .ok (.getfield 12, 3)) rfl
theorem s_18_22 {K : gC} : gOk K g_Ms mi_18 22 (ga_getI 0 4 25) := gs_getI gcls_0 (by decide) (by decide) gw_121 (by decide +kernel : decode mi_18.2.1 22 = .ok (.getfield 53, 3)) rfl
theorem s_18_25 {K : gC} : gOk K g_Ms mi_18 25 (ga_cmp (fun x y => decide (y ≤ x)) 122 28) := gs_cmp_ge (by decide +kernel : decode mi_18.2.1 25 = .ok (.if_icmp .ge 97, 3)) (by decide) rfl
theorem s_18_28 {K : gC} : gOk K g_Ms mi_18 28 (ga_iload 5 30) := gs_iload (by decide +kernel : decode mi_18.2.1 28 = .ok (.iload 5, 2)) rfl
theorem s_18_30 {K : gC} : gOk K g_Ms mi_18 30 (ga_push (.int 1) 31) := gs_iconst (by decide +kernel : decode mi_18.2.1 30 = .ok (.iconst 1, 1)) (by decide) rfl
theorem s_18_31 {K : gC} : gOk K g_Ms mi_18 31 (ga_bin (fun x y => x + y) 32) := gs_iadd (by decide +kernel : decode mi_18.2.1 31 = .ok (.iadd, 1)) rfl
theorem s_18_32 {K : gC} : gOk K g_Ms mi_18 32 (ga_istore 6 34) := gs_istore (by decide +kernel : decode mi_18.2.1 32 = .ok (.istore 6, 2)) rfl
theorem s_18_34 {K : gC} : gOk K g_Ms mi_18 34 (ga_iload 6 36) := gs_iload (by decide +kernel : decode mi_18.2.1 34 = .ok (.iload 6, 2)) rfl
theorem s_18_36 {K : gC} : gOk K g_Ms mi_18 36 (ga_aload 0 37) := gs_aload_n (by decide +kernel : decode mi_18.2.1 36 = .ok (.aload_n 0, 1)) rfl rfl
theorem s_18_37 {K : gC} : gOk K g_Ms mi_18 37 (ga_getR 1 0 40) := gs_getR gcls_1 (by decide) (by decide) gw_213 (by decide +kernel : decode mi_18.2.1 37 = .ok (.getfield 12, 3)) rfl
theorem s_18_40 {K : gC} : gOk K g_Ms mi_18 40 (ga_getI 0 4 43) := gs_getI gcls_0 (by decide) (by decide) gw_121 (by decide +kernel : decode mi_18.2.1 40 = .ok (.getfield 53, 3)) rfl
theorem s_18_43 {K : gC} : gOk K g_Ms mi_18 43 (ga_cmp (fun x y => decide (y ≤ x)) 116 46) := gs_cmp_ge (by decide +kernel : decode mi_18.2.1 43 = .ok (.if_icmp .ge 73, 3)) (by decide) rfl
theorem s_18_46 {K : gC} : gOk K g_Ms mi_18 46 (ga_aload 0 47) := gs_aload_n (by decide +kernel : decode mi_18.2.1 46 = .ok (.aload_n 0, 1)) rfl rfl
theorem s_18_47 {K : gC} : gOk K g_Ms mi_18 47 (ga_getR 1 0 50) := gs_getR gcls_1 (by decide) (by decide) gw_213 (by decide +kernel : decode mi_18.2.1 47 = .ok (.getfield 12, 3)) rfl
theorem s_18_50 {K : gC} : gOk K g_Ms mi_18 50 (ga_iload 5 52) := gs_iload (by decide +kernel : decode mi_18.2.1 50 = .ok (.iload 5, 2)) rfl
theorem s_18_52 {K : gC} : gOk K g_Ms mi_18 52 (ga_iload 6 54) := gs_iload (by decide +kernel : decode mi_18.2.1 52 = .ok (.iload 6, 2)) rfl
theorem s_18_54 {K : gC} : gOk K g_Ms mi_18 54 (ga_callV 0 6 2 57) := gs_callV gcls_0 (gce_X0_swapMonks (by decide) (by decide)) gw_582 gw_583 gw_584 (by decide +kernel : decode mi_18.2.1 54 = .ok (.invokevirtual 81, 3)) rfl
theorem s_18_57 {K : gC} : gOk K g_Ms mi_18 57 (ga_aload 0 58) := gs_aload_n (by decide +kernel : decode mi_18.2.1 57 = .ok (.aload_n 0, 1)) rfl rfl
theorem s_18_58 {K : gC} : gOk K g_Ms mi_18 58 (ga_iload 1 59) := gs_iload_n (by decide +kernel : decode mi_18.2.1 58 = .ok (.iload_n 1, 1)) rfl rfl
theorem s_18_59 {K : gC} : gOk K g_Ms mi_18 59 (ga_iload 2 60) := gs_iload_n (by decide +kernel : decode mi_18.2.1 59 = .ok (.iload_n 2, 1)) rfl rfl
theorem s_18_60 {K : gC} : gOk K g_Ms mi_18 60 (ga_iload 3 61) := gs_iload_n (by decide +kernel : decode mi_18.2.1 60 = .ok (.iload_n 3, 1)) rfl rfl
theorem s_18_61 {K : gC} : gOk K g_Ms mi_18 61 (ga_callV 1 16 3 64) := gs_callV gcls_1 (gce_X1_minutesBetween (by decide) (by decide)) gw_581 gw_559 gw_560 (by decide +kernel : decode mi_18.2.1 61 = .ok (.invokevirtual 77, 3)) rfl
theorem s_18_64 {K : gC} : gOk K g_Ms mi_18 64 (ga_istore 7 66) := gs_istore (by decide +kernel : decode mi_18.2.1 64 = .ok (.istore 7, 2)) rfl
theorem s_18_66 {K : gC} : gOk K g_Ms mi_18 66 (ga_aload 0 67) := gs_aload_n (by decide +kernel : decode mi_18.2.1 66 = .ok (.aload_n 0, 1)) rfl rfl
theorem s_18_67 {K : gC} : gOk K g_Ms mi_18 67 (ga_getR 1 0 70) := gs_getR gcls_1 (by decide) (by decide) gw_213 (by decide +kernel : decode mi_18.2.1 67 = .ok (.getfield 12, 3)) rfl
theorem s_18_70 {K : gC} : gOk K g_Ms mi_18 70 (ga_iload 5 72) := gs_iload (by decide +kernel : decode mi_18.2.1 70 = .ok (.iload 5, 2)) rfl
theorem s_18_72 {K : gC} : gOk K g_Ms mi_18 72 (ga_iload 6 74) := gs_iload (by decide +kernel : decode mi_18.2.1 72 = .ok (.iload 6, 2)) rfl
theorem s_18_74 {K : gC} : gOk K g_Ms mi_18 74 (ga_callV 0 6 2 77) := gs_callV gcls_0 (gce_X0_swapMonks (by decide) (by decide)) gw_582 gw_583 gw_584 (by decide +kernel : decode mi_18.2.1 74 = .ok (.invokevirtual 81, 3)) rfl
theorem s_18_77 {K : gC} : gOk K g_Ms mi_18 77 (ga_iload 7 79) := gs_iload (by decide +kernel : decode mi_18.2.1 77 = .ok (.iload 7, 2)) rfl
theorem s_18_79 {K : gC} : gOk K g_Ms mi_18 79 (ga_push (.int (-1)) 80) := gs_iconst (by decide +kernel : decode mi_18.2.1 79 = .ok (.iconst (-1), 1)) (by decide) rfl
theorem s_18_80 {K : gC} : gOk K g_Ms mi_18 80 (ga_cmp (fun x y => decide (x = y)) 110 83) := gs_cmp_eq (by decide +kernel : decode mi_18.2.1 80 = .ok (.if_icmp .eq 30, 3)) (by decide) rfl
theorem s_18_83 {K : gC} : gOk K g_Ms mi_18 83 (ga_iload 4 85) := gs_iload (by decide +kernel : decode mi_18.2.1 83 = .ok (.iload 4, 2)) rfl
theorem s_18_85 {K : gC} : gOk K g_Ms mi_18 85 (ga_push (.int (-1)) 86) := gs_iconst (by decide +kernel : decode mi_18.2.1 85 = .ok (.iconst (-1), 1)) (by decide) rfl
theorem s_18_86 {K : gC} : gOk K g_Ms mi_18 86 (ga_cmp (fun x y => decide (x = y)) 96 89) := gs_cmp_eq (by decide +kernel : decode mi_18.2.1 86 = .ok (.if_icmp .eq 10, 3)) (by decide) rfl
theorem s_18_89 {K : gC} : gOk K g_Ms mi_18 89 (ga_iload 7 91) := gs_iload (by decide +kernel : decode mi_18.2.1 89 = .ok (.iload 7, 2)) rfl
theorem s_18_91 {K : gC} : gOk K g_Ms mi_18 91 (ga_iload 4 93) := gs_iload (by decide +kernel : decode mi_18.2.1 91 = .ok (.iload 4, 2)) rfl
theorem s_18_93 {K : gC} : gOk K g_Ms mi_18 93 (ga_cmp (fun x y => decide (y ≤ x)) 110 96) := gs_cmp_ge (by decide +kernel : decode mi_18.2.1 93 = .ok (.if_icmp .ge 17, 3)) (by decide) rfl
theorem s_18_96 {K : gC} : gOk K g_Ms mi_18 96 (ga_iload 7 98) := gs_iload (by decide +kernel : decode mi_18.2.1 96 = .ok (.iload 7, 2)) rfl
theorem s_18_98 {K : gC} : gOk K g_Ms mi_18 98 (ga_istore 4 100) := gs_istore (by decide +kernel : decode mi_18.2.1 98 = .ok (.istore 4, 2)) rfl
theorem s_18_100 {K : gC} : gOk K g_Ms mi_18 100 (ga_aload 0 101) := gs_aload_n (by decide +kernel : decode mi_18.2.1 100 = .ok (.aload_n 0, 1)) rfl rfl
theorem s_18_101 {K : gC} : gOk K g_Ms mi_18 101 (ga_iload 7 103) := gs_iload (by decide +kernel : decode mi_18.2.1 101 = .ok (.iload 7, 2)) rfl
theorem s_18_103 {K : gC} : gOk K g_Ms mi_18 103 (ga_iload 5 105) := gs_iload (by decide +kernel : decode mi_18.2.1 103 = .ok (.iload 5, 2)) rfl
theorem s_18_105 {K : gC} : gOk K g_Ms mi_18 105 (ga_iload 6 107) := gs_iload (by decide +kernel : decode mi_18.2.1 105 = .ok (.iload 6, 2)) rfl
theorem s_18_107 {K : gC} : gOk K g_Ms mi_18 107 (ga_callV 1 21 3 110) := gs_callV gcls_1 (gce_X1_setBest (by decide) (by decide)) gw_577 gw_579 gw_13 (by decide +kernel : decode mi_18.2.1 107 = .ok (.invokevirtual 85, 3)) rfl
theorem s_18_110 {K : gC} : gOk K g_Ms mi_18 110 (ga_iinc 6 1 113) := gs_iinc (by decide +kernel : decode mi_18.2.1 110 = .ok (.iinc 6 1, 3)) (by decide) rfl
theorem s_18_113 {K : gC} : gOk K g_Ms mi_18 113 (ga_goto 34) := gs_goto (by decide +kernel : decode mi_18.2.1 113 = .ok (.goto (-79), 3)) (by decide)
theorem s_18_116 {K : gC} : gOk K g_Ms mi_18 116 (ga_iinc 5 1 119) := gs_iinc (by decide +kernel : decode mi_18.2.1 116 = .ok (.iinc 5 1, 3)) (by decide) rfl
theorem s_18_119 {K : gC} : gOk K g_Ms mi_18 119 (ga_goto 16) := gs_goto (by decide +kernel : decode mi_18.2.1 119 = .ok (.goto (-103), 3)) (by decide)
theorem s_18_122 {K : gC} : gOk K g_Ms mi_18 122 (ga_vret) := gs_vret (by decide +kernel : decode mi_18.2.1 122 = .ok (.return_, 1)) rfl
theorem ok_18 {K : gC} : ∀ e ∈ t_18, gOk K g_Ms mi_18 e.1 e.2 := by
  unfold t_18
  simp only [List.forall_mem_cons, List.not_mem_nil, false_implies, implies_true, and_true]
  exact ⟨s_18_0, s_18_1, s_18_4, s_18_5, s_18_6, s_18_7, s_18_8, s_18_11, s_18_13, s_18_14, s_18_16, s_18_18, s_18_19, s_18_22, s_18_25, s_18_28, s_18_30, s_18_31, s_18_32, s_18_34, s_18_36, s_18_37, s_18_40, s_18_43, s_18_46, s_18_47, s_18_50, s_18_52, s_18_54, s_18_57, s_18_58, s_18_59, s_18_60, s_18_61, s_18_64, s_18_66, s_18_67, s_18_70, s_18_72, s_18_74, s_18_77, s_18_79, s_18_80, s_18_83, s_18_85, s_18_86, s_18_89, s_18_91, s_18_93, s_18_96, s_18_98, s_18_100, s_18_101, s_18_103, s_18_105, s_18_107, s_18_110, s_18_113, s_18_116, s_18_119, s_18_122⟩
theorem s_19_0 {K : gC} : gOk K g_Ms mi_19 0 (ga_aload 0 1) := gs_aload_n (by decide +kernel : decode mi_19.2.1 0 = .ok (.aload_n 0, 1)) rfl rfl
theorem s_19_1 {K : gC} : gOk K g_Ms mi_19 1 (ga_callV 1 20 0 4) := gs_callV gcls_1 (gce_X1_forgetBest (by decide) (by decide)) gw_573 gw_575 gw_12 (by decide +kernel : decode mi_19.2.1 1 = .ok (.invokevirtual 74, 3)) rfl
theorem s_19_4 {K : gC} : gOk K g_Ms mi_19 4 (ga_aload 0 5) := gs_aload_n (by decide +kernel : decode mi_19.2.1 4 = .ok (.aload_n 0, 1)) rfl rfl
theorem s_19_5 {K : gC} : gOk K g_Ms mi_19 5 (ga_iload 2 6) := gs_iload_n (by decide +kernel : decode mi_19.2.1 5 = .ok (.iload_n 2, 1)) rfl rfl
theorem s_19_6 {K : gC} : gOk K g_Ms mi_19 6 (ga_callV 1 12 1 9) := gs_callV gcls_1 (gce_X1_strikers (by decide) (by decide)) gw_594 gw_523 gw_524 (by decide +kernel : decode mi_19.2.1 6 = .ok (.invokevirtual 89, 3)) rfl
theorem s_19_9 {K : gC} : gOk K g_Ms mi_19 9 (ga_call 133 1 12) := gs_callS (gce_J6_bitCount_0f7a4 (by decide) (by decide)) gw_595 gw_470 (by decide +kernel : decode mi_19.2.1 9 = .ok (.invokestatic 92, 3)) rfl
theorem s_19_12 {K : gC} : gOk K g_Ms mi_19 12 (ga_istore 3 13) := gs_istore_n (by decide +kernel : decode mi_19.2.1 12 = .ok (.istore_n 3, 1)) rfl rfl
theorem s_19_13 {K : gC} : gOk K g_Ms mi_19 13 (ga_push (.int 0) 14) := gs_iconst (by decide +kernel : decode mi_19.2.1 13 = .ok (.iconst 0, 1)) (by decide) rfl
theorem s_19_14 {K : gC} : gOk K g_Ms mi_19 14 (ga_istore 4 16) := gs_istore (by decide +kernel : decode mi_19.2.1 14 = .ok (.istore 4, 2)) rfl
theorem s_19_16 {K : gC} : gOk K g_Ms mi_19 16 (ga_iload 4 18) := gs_iload (by decide +kernel : decode mi_19.2.1 16 = .ok (.iload 4, 2)) rfl
theorem s_19_18 {K : gC} : gOk K g_Ms mi_19 18 (ga_aload 1 19) := gs_aload_n (by decide +kernel : decode mi_19.2.1 18 = .ok (.aload_n 1, 1)) rfl rfl
theorem s_19_19 {K : gC} : gOk K g_Ms mi_19 19 (ga_getI 0 4 22) := gs_getI gcls_0 (by decide) (by decide) gw_121 (by decide +kernel : decode mi_19.2.1 19 = .ok (.getfield 53, 3)) rfl
theorem s_19_22 {K : gC} : gOk K g_Ms mi_19 22 (ga_cmp (fun x y => decide (y ≤ x)) 90 25) := gs_cmp_ge (by decide +kernel : decode mi_19.2.1 22 = .ok (.if_icmp .ge 68, 3)) (by decide) rfl
theorem s_19_25 {K : gC} : gOk K g_Ms mi_19 25 (ga_aload 1 26) := gs_aload_n (by decide +kernel : decode mi_19.2.1 25 = .ok (.aload_n 1, 1)) rfl rfl
theorem s_19_26 {K : gC} : gOk K g_Ms mi_19 26 (ga_getR 0 2 29) := gs_getR gcls_0 (by decide) (by decide) gw_115 (by decide +kernel : decode mi_19.2.1 26 = .ok (.getfield 97, 3)) rfl
theorem s_19_29 {K : gC} : gOk K g_Ms mi_19 29 (ga_iload 4 31) := gs_iload (by decide +kernel : decode mi_19.2.1 29 = .ok (.iload 4, 2)) rfl
theorem s_19_31 {K : gC} : gOk K g_Ms mi_19 31 (ga_iald 32) := gs_iald (by decide +kernel : decode mi_19.2.1 31 = .ok (.iaload, 1)) rfl
theorem s_19_32 {K : gC} : gOk K g_Ms mi_19 32 (ga_push (.int 1) 33) := gs_iconst (by decide +kernel : decode mi_19.2.1 32 = .ok (.iconst 1, 1)) (by decide) rfl
theorem s_19_33 {K : gC} : gOk K g_Ms mi_19 33 (ga_cmp (fun x y => decide (x = y)) 39 36) := gs_cmp_eq (by decide +kernel : decode mi_19.2.1 33 = .ok (.if_icmp .eq 6, 3)) (by decide) rfl
theorem s_19_36 {K : gC} : gOk K g_Ms mi_19 36 (ga_goto 84) := gs_goto (by decide +kernel : decode mi_19.2.1 36 = .ok (.goto 48, 3)) (by decide)
theorem s_19_39 {K : gC} : gOk K g_Ms mi_19 39 (ga_aload 0 40) := gs_aload_n (by decide +kernel : decode mi_19.2.1 39 = .ok (.aload_n 0, 1)) rfl rfl
theorem s_19_40 {K : gC} : gOk K g_Ms mi_19 40 (ga_getR 1 0 43) := gs_getR gcls_1 (by decide) (by decide) gw_213 (by decide +kernel : decode mi_19.2.1 40 = .ok (.getfield 12, 3)) rfl
theorem s_19_43 {K : gC} : gOk K g_Ms mi_19 43 (ga_aload 1 44) := gs_aload_n (by decide +kernel : decode mi_19.2.1 43 = .ok (.aload_n 1, 1)) rfl rfl
theorem s_19_44 {K : gC} : gOk K g_Ms mi_19 44 (ga_callV 0 2 1 47) := gs_callV gcls_0 (gce_X0_copyFrom (by decide) (by decide)) gw_503 gw_285 gw_286 (by decide +kernel : decode mi_19.2.1 44 = .ok (.invokevirtual 28, 3)) rfl
theorem s_19_47 {K : gC} : gOk K g_Ms mi_19 47 (ga_aload 0 48) := gs_aload_n (by decide +kernel : decode mi_19.2.1 47 = .ok (.aload_n 0, 1)) rfl rfl
theorem s_19_48 {K : gC} : gOk K g_Ms mi_19 48 (ga_getR 1 0 51) := gs_getR gcls_1 (by decide) (by decide) gw_213 (by decide +kernel : decode mi_19.2.1 48 = .ok (.getfield 12, 3)) rfl
theorem s_19_51 {K : gC} : gOk K g_Ms mi_19 51 (ga_iload 4 53) := gs_iload (by decide +kernel : decode mi_19.2.1 51 = .ok (.iload 4, 2)) rfl
theorem s_19_53 {K : gC} : gOk K g_Ms mi_19 53 (ga_callV 0 7 1 56) := gs_callV gcls_0 (gce_X0_hearOver (by decide) (by decide)) gw_596 gw_597 gw_598 (by decide +kernel : decode mi_19.2.1 53 = .ok (.invokevirtual 101, 3)) rfl
theorem s_19_56 {K : gC} : gOk K g_Ms mi_19 56 (ga_aload 0 57) := gs_aload_n (by decide +kernel : decode mi_19.2.1 56 = .ok (.aload_n 0, 1)) rfl rfl
theorem s_19_57 {K : gC} : gOk K g_Ms mi_19 57 (ga_iload 2 58) := gs_iload_n (by decide +kernel : decode mi_19.2.1 57 = .ok (.iload_n 2, 1)) rfl rfl
theorem s_19_58 {K : gC} : gOk K g_Ms mi_19 58 (ga_callV 1 12 1 61) := gs_callV gcls_1 (gce_X1_strikers (by decide) (by decide)) gw_594 gw_523 gw_524 (by decide +kernel : decode mi_19.2.1 58 = .ok (.invokevirtual 89, 3)) rfl
theorem s_19_61 {K : gC} : gOk K g_Ms mi_19 61 (ga_call 133 1 64) := gs_callS (gce_J6_bitCount_0f7a4 (by decide) (by decide)) gw_595 gw_470 (by decide +kernel : decode mi_19.2.1 61 = .ok (.invokestatic 92, 3)) rfl
theorem s_19_64 {K : gC} : gOk K g_Ms mi_19 64 (ga_istore 5 66) := gs_istore (by decide +kernel : decode mi_19.2.1 64 = .ok (.istore 5, 2)) rfl
theorem s_19_66 {K : gC} : gOk K g_Ms mi_19 66 (ga_iload 5 68) := gs_iload (by decide +kernel : decode mi_19.2.1 66 = .ok (.iload 5, 2)) rfl
theorem s_19_68 {K : gC} : gOk K g_Ms mi_19 68 (ga_iload 3 69) := gs_iload_n (by decide +kernel : decode mi_19.2.1 68 = .ok (.iload_n 3, 1)) rfl rfl
theorem s_19_69 {K : gC} : gOk K g_Ms mi_19 69 (ga_cmp (fun x y => decide (x ≤ y)) 84 72) := gs_cmp_le (by decide +kernel : decode mi_19.2.1 69 = .ok (.if_icmp .le 15, 3)) (by decide) rfl
theorem s_19_72 {K : gC} : gOk K g_Ms mi_19 72 (ga_iload 5 74) := gs_iload (by decide +kernel : decode mi_19.2.1 72 = .ok (.iload 5, 2)) rfl
theorem s_19_74 {K : gC} : gOk K g_Ms mi_19 74 (ga_istore 3 75) := gs_istore_n (by decide +kernel : decode mi_19.2.1 74 = .ok (.istore_n 3, 1)) rfl rfl
theorem s_19_75 {K : gC} : gOk K g_Ms mi_19 75 (ga_aload 0 76) := gs_aload_n (by decide +kernel : decode mi_19.2.1 75 = .ok (.aload_n 0, 1)) rfl rfl
theorem s_19_76 {K : gC} : gOk K g_Ms mi_19 76 (ga_iload 5 78) := gs_iload (by decide +kernel : decode mi_19.2.1 76 = .ok (.iload 5, 2)) rfl
theorem s_19_78 {K : gC} : gOk K g_Ms mi_19 78 (ga_iload 4 80) := gs_iload (by decide +kernel : decode mi_19.2.1 78 = .ok (.iload 4, 2)) rfl
theorem s_19_80 {K : gC} : gOk K g_Ms mi_19 80 (ga_push (.int (-1)) 81) := gs_iconst (by decide +kernel : decode mi_19.2.1 80 = .ok (.iconst (-1), 1)) (by decide) rfl
theorem s_19_81 {K : gC} : gOk K g_Ms mi_19 81 (ga_callV 1 21 3 84) := gs_callV gcls_1 (gce_X1_setBest (by decide) (by decide)) gw_577 gw_579 gw_13 (by decide +kernel : decode mi_19.2.1 81 = .ok (.invokevirtual 85, 3)) rfl
theorem s_19_84 {K : gC} : gOk K g_Ms mi_19 84 (ga_iinc 4 1 87) := gs_iinc (by decide +kernel : decode mi_19.2.1 84 = .ok (.iinc 4 1, 3)) (by decide) rfl
theorem s_19_87 {K : gC} : gOk K g_Ms mi_19 87 (ga_goto 16) := gs_goto (by decide +kernel : decode mi_19.2.1 87 = .ok (.goto (-71), 3)) (by decide)
theorem s_19_90 {K : gC} : gOk K g_Ms mi_19 90 (ga_vret) := gs_vret (by decide +kernel : decode mi_19.2.1 90 = .ok (.return_, 1)) rfl
theorem ok_19 {K : gC} : ∀ e ∈ t_19, gOk K g_Ms mi_19 e.1 e.2 := by
  unfold t_19
  simp only [List.forall_mem_cons, List.not_mem_nil, false_implies, implies_true, and_true]
  exact ⟨s_19_0, s_19_1, s_19_4, s_19_5, s_19_6, s_19_9, s_19_12, s_19_13, s_19_14, s_19_16, s_19_18, s_19_19, s_19_22, s_19_25, s_19_26, s_19_29, s_19_31, s_19_32, s_19_33, s_19_36, s_19_39, s_19_40, s_19_43, s_19_44, s_19_47, s_19_48, s_19_51, s_19_53, s_19_56, s_19_57, s_19_58, s_19_61, s_19_64, s_19_66, s_19_68, s_19_69, s_19_72, s_19_74, s_19_75, s_19_76, s_19_78, s_19_80, s_19_81, s_19_84, s_19_87, s_19_90⟩
theorem s_20_0 {K : gC} : gOk K g_Ms mi_20 0 (ga_aload 0 1) := gs_aload_n (by decide +kernel : decode mi_20.2.1 0 = .ok (.aload_n 0, 1)) rfl rfl
theorem s_20_1 {K : gC} : gOk K g_Ms mi_20 1 (ga_push (.int (-1)) 2) := gs_iconst (by decide +kernel : decode mi_20.2.1 1 = .ok (.iconst (-1), 1)) (by decide) rfl
theorem s_20_2 {K : gC} : gOk K g_Ms mi_20 2 (ga_push (.int (-1)) 3) := gs_iconst (by decide +kernel : decode mi_20.2.1 2 = .ok (.iconst (-1), 1)) (by decide) rfl
theorem s_20_3 {K : gC} : gOk K g_Ms mi_20 3 (ga_push (.int (-1)) 4) := gs_iconst (by decide +kernel : decode mi_20.2.1 3 = .ok (.iconst (-1), 1)) (by decide) rfl
theorem s_20_4 {K : gC} : gOk K g_Ms mi_20 4 (ga_callV 1 21 3 7) := gs_callV gcls_1 (gce_X1_setBest (by decide) (by decide)) gw_577 gw_579 gw_13 (by decide +kernel : decode mi_20.2.1 4 = .ok (.invokevirtual 85, 3)) rfl
theorem s_20_7 {K : gC} : gOk K g_Ms mi_20 7 (ga_vret) := gs_vret (by decide +kernel : decode mi_20.2.1 7 = .ok (.return_, 1)) rfl
theorem ok_20 {K : gC} : ∀ e ∈ t_20, gOk K g_Ms mi_20 e.1 e.2 := by
  unfold t_20
  simp only [List.forall_mem_cons, List.not_mem_nil, false_implies, implies_true, and_true]
  exact ⟨s_20_0, s_20_1, s_20_2, s_20_3, s_20_4, s_20_7⟩
theorem s_21_0 {K : gC} : gOk K g_Ms mi_21 0 (ga_aload 0 1) := gs_aload_n (by decide +kernel : decode mi_21.2.1 0 = .ok (.aload_n 0, 1)) rfl rfl
theorem s_21_1 {K : gC} : gOk K g_Ms mi_21 1 (ga_iload 1 2) := gs_iload_n (by decide +kernel : decode mi_21.2.1 1 = .ok (.iload_n 1, 1)) rfl rfl
theorem s_21_2 {K : gC} : gOk K g_Ms mi_21 2 (ga_putI 1 5 5) := gs_putI gcls_1 (by decide) (by decide) rfl rfl gw_219 (by decide +kernel : decode mi_21.2.1 2 = .ok (.putfield 105, 3)) rfl
theorem s_21_5 {K : gC} : gOk K g_Ms mi_21 5 (ga_aload 0 6) := gs_aload_n (by decide +kernel : decode mi_21.2.1 5 = .ok (.aload_n 0, 1)) rfl rfl
theorem s_21_6 {K : gC} : gOk K g_Ms mi_21 6 (ga_iload 2 7) := gs_iload_n (by decide +kernel : decode mi_21.2.1 6 = .ok (.iload_n 2, 1)) rfl rfl
theorem s_21_7 {K : gC} : gOk K g_Ms mi_21 7 (ga_putI 1 6 10) := gs_putI gcls_1 (by decide) (by decide) rfl rfl gw_221 (by decide +kernel : decode mi_21.2.1 7 = .ok (.putfield 108, 3)) rfl
theorem s_21_10 {K : gC} : gOk K g_Ms mi_21 10 (ga_aload 0 11) := gs_aload_n (by decide +kernel : decode mi_21.2.1 10 = .ok (.aload_n 0, 1)) rfl rfl
theorem s_21_11 {K : gC} : gOk K g_Ms mi_21 11 (ga_iload 3 12) := gs_iload_n (by decide +kernel : decode mi_21.2.1 11 = .ok (.iload_n 3, 1)) rfl rfl
theorem s_21_12 {K : gC} : gOk K g_Ms mi_21 12 (ga_putI 1 7 15) := gs_putI gcls_1 (by decide) (by decide) rfl rfl gw_223 (by decide +kernel : decode mi_21.2.1 12 = .ok (.putfield 111, 3)) rfl
theorem s_21_15 {K : gC} : gOk K g_Ms mi_21 15 (ga_vret) := gs_vret (by decide +kernel : decode mi_21.2.1 15 = .ok (.return_, 1)) rfl
theorem ok_21 {K : gC} : ∀ e ∈ t_21, gOk K g_Ms mi_21 e.1 e.2 := by
  unfold t_21
  simp only [List.forall_mem_cons, List.not_mem_nil, false_implies, implies_true, and_true]
  exact ⟨s_21_0, s_21_1, s_21_2, s_21_5, s_21_6, s_21_7, s_21_10, s_21_11, s_21_12, s_21_15⟩
theorem s_22_0 {K : gC} : gOk K g_Ms mi_22 0 (ga_aload 0 1) := gs_aload_n (by decide +kernel : decode mi_22.2.1 0 = .ok (.aload_n 0, 1)) rfl rfl
theorem s_22_1 {K : gC} : gOk K g_Ms mi_22 1 (ga_oinit 4) := gs_oinit gw_145 gw_59 gw_objc (by decide) (by decide) (by decide +kernel : decode mi_22.2.1 1 = .ok (.invokespecial 3, 3)) rfl
theorem s_22_4 {K : gC} : gOk K g_Ms mi_22 4 (ga_aload 0 5) := gs_aload_n (by decide +kernel : decode mi_22.2.1 4 = .ok (.aload_n 0, 1)) rfl rfl
theorem s_22_5 {K : gC} : gOk K g_Ms mi_22 5 (ga_push (.int 10) 7) := gs_bipush (by decide +kernel : decode mi_22.2.1 5 = .ok (.bipush 10, 2)) (by decide) rfl
theorem s_22_7 {K : gC} : gOk K g_Ms mi_22 7 (ga_newa 10 9) := gs_newaJ gw_166 (by decide +kernel : decode mi_22.2.1 7 = .ok (.newarray .long, 2)) rfl
theorem s_22_9 {K : gC} : gOk K g_Ms mi_22 9 (ga_putR 2 0 12) := gs_putR gcls_2 (by decide) (by decide) (fun _ => ⟨rfl, rfl⟩) rfl rfl rfl gw_146 (by decide +kernel : decode mi_22.2.1 9 = .ok (.putfield 9, 3)) rfl
theorem s_22_12 {K : gC} : gOk K g_Ms mi_22 12 (ga_aload 0 13) := gs_aload_n (by decide +kernel : decode mi_22.2.1 12 = .ok (.aload_n 0, 1)) rfl rfl
theorem s_22_13 {K : gC} : gOk K g_Ms mi_22 13 (ga_push (.int 10) 15) := gs_bipush (by decide +kernel : decode mi_22.2.1 13 = .ok (.bipush 10, 2)) (by decide) rfl
theorem s_22_15 {K : gC} : gOk K g_Ms mi_22 15 (ga_newa 8 17) := gs_newaI gw_88 (by decide +kernel : decode mi_22.2.1 15 = .ok (.newarray .int, 2)) rfl
theorem s_22_17 {K : gC} : gOk K g_Ms mi_22 17 (ga_putR 2 1 20) := gs_putR gcls_2 (by decide) (by decide) (fun _ => ⟨rfl, rfl⟩) rfl rfl rfl gw_147 (by decide +kernel : decode mi_22.2.1 17 = .ok (.putfield 15, 3)) rfl
theorem s_22_20 {K : gC} : gOk K g_Ms mi_22 20 (ga_aload 0 21) := gs_aload_n (by decide +kernel : decode mi_22.2.1 20 = .ok (.aload_n 0, 1)) rfl rfl
theorem s_22_21 {K : gC} : gOk K g_Ms mi_22 21 (ga_push (.int 10) 23) := gs_bipush (by decide +kernel : decode mi_22.2.1 21 = .ok (.bipush 10, 2)) (by decide) rfl
theorem s_22_23 {K : gC} : gOk K g_Ms mi_22 23 (ga_newa 9 25) := gs_newaZ gw_167 (by decide +kernel : decode mi_22.2.1 23 = .ok (.newarray .boolean, 2)) rfl
theorem s_22_25 {K : gC} : gOk K g_Ms mi_22 25 (ga_putR 2 2 28) := gs_putR gcls_2 (by decide) (by decide) (fun _ => ⟨rfl, rfl⟩) rfl rfl rfl gw_149 (by decide +kernel : decode mi_22.2.1 25 = .ok (.putfield 19, 3)) rfl
theorem s_22_28 {K : gC} : gOk K g_Ms mi_22 28 (ga_vret) := gs_vret (by decide +kernel : decode mi_22.2.1 28 = .ok (.return_, 1)) rfl
theorem ok_22 {K : gC} : ∀ e ∈ t_22, gOk K g_Ms mi_22 e.1 e.2 := by
  unfold t_22
  simp only [List.forall_mem_cons, List.not_mem_nil, false_implies, implies_true, and_true]
  exact ⟨s_22_0, s_22_1, s_22_4, s_22_5, s_22_7, s_22_9, s_22_12, s_22_13, s_22_15, s_22_17, s_22_20, s_22_21, s_22_23, s_22_25, s_22_28⟩
theorem s_23_0 {K : gC} : gOk K g_Ms mi_23 0 (ga_push (.int 0) 1) := gs_iconst (by decide +kernel : decode mi_23.2.1 0 = .ok (.iconst 0, 1)) (by decide) rfl
theorem s_23_1 {K : gC} : gOk K g_Ms mi_23 1 (ga_istore 2 2) := gs_istore_n (by decide +kernel : decode mi_23.2.1 1 = .ok (.istore_n 2, 1)) rfl rfl
theorem s_23_2 {K : gC} : gOk K g_Ms mi_23 2 (ga_iload 2 3) := gs_iload_n (by decide +kernel : decode mi_23.2.1 2 = .ok (.iload_n 2, 1)) rfl rfl
theorem s_23_3 {K : gC} : gOk K g_Ms mi_23 3 (ga_push (.int 10) 5) := gs_bipush (by decide +kernel : decode mi_23.2.1 3 = .ok (.bipush 10, 2)) (by decide) rfl
theorem s_23_5 {K : gC} : gOk K g_Ms mi_23 5 (ga_cmp (fun x y => decide (y ≤ x)) 35 8) := gs_cmp_ge (by decide +kernel : decode mi_23.2.1 5 = .ok (.if_icmp .ge 30, 3)) (by decide) rfl
theorem s_23_8 {K : gC} : gOk K g_Ms mi_23 8 (ga_aload 0 9) := gs_aload_n (by decide +kernel : decode mi_23.2.1 8 = .ok (.aload_n 0, 1)) rfl rfl
theorem s_23_9 {K : gC} : gOk K g_Ms mi_23 9 (ga_getR 2 0 12) := gs_getR gcls_2 (by decide) (by decide) gw_146 (by decide +kernel : decode mi_23.2.1 9 = .ok (.getfield 9, 3)) rfl
theorem s_23_12 {K : gC} : gOk K g_Ms mi_23 12 (ga_iload 2 13) := gs_iload_n (by decide +kernel : decode mi_23.2.1 12 = .ok (.iload_n 2, 1)) rfl rfl
theorem s_23_13 {K : gC} : gOk K g_Ms mi_23 13 (ga_push (.long 0) 14) := gs_lconst (by decide +kernel : decode mi_23.2.1 13 = .ok (.lconst 0, 1)) (by decide) rfl
theorem s_23_14 {K : gC} : gOk K g_Ms mi_23 14 (ga_last 15) := gs_last (by decide +kernel : decode mi_23.2.1 14 = .ok (.lastore, 1)) rfl
theorem s_23_15 {K : gC} : gOk K g_Ms mi_23 15 (ga_aload 0 16) := gs_aload_n (by decide +kernel : decode mi_23.2.1 15 = .ok (.aload_n 0, 1)) rfl rfl
theorem s_23_16 {K : gC} : gOk K g_Ms mi_23 16 (ga_getR 2 1 19) := gs_getR gcls_2 (by decide) (by decide) gw_147 (by decide +kernel : decode mi_23.2.1 16 = .ok (.getfield 15, 3)) rfl
theorem s_23_19 {K : gC} : gOk K g_Ms mi_23 19 (ga_iload 2 20) := gs_iload_n (by decide +kernel : decode mi_23.2.1 19 = .ok (.iload_n 2, 1)) rfl rfl
theorem s_23_20 {K : gC} : gOk K g_Ms mi_23 20 (ga_push (.int 0) 21) := gs_iconst (by decide +kernel : decode mi_23.2.1 20 = .ok (.iconst 0, 1)) (by decide) rfl
theorem s_23_21 {K : gC} : gOk K g_Ms mi_23 21 (ga_iast 22) := gs_iast (by decide +kernel : decode mi_23.2.1 21 = .ok (.iastore, 1)) rfl
theorem s_23_22 {K : gC} : gOk K g_Ms mi_23 22 (ga_aload 0 23) := gs_aload_n (by decide +kernel : decode mi_23.2.1 22 = .ok (.aload_n 0, 1)) rfl rfl
theorem s_23_23 {K : gC} : gOk K g_Ms mi_23 23 (ga_getR 2 2 26) := gs_getR gcls_2 (by decide) (by decide) gw_149 (by decide +kernel : decode mi_23.2.1 23 = .ok (.getfield 19, 3)) rfl
theorem s_23_26 {K : gC} : gOk K g_Ms mi_23 26 (ga_iload 2 27) := gs_iload_n (by decide +kernel : decode mi_23.2.1 26 = .ok (.iload_n 2, 1)) rfl rfl
theorem s_23_27 {K : gC} : gOk K g_Ms mi_23 27 (ga_push (.int 0) 28) := gs_iconst (by decide +kernel : decode mi_23.2.1 27 = .ok (.iconst 0, 1)) (by decide) rfl
theorem s_23_28 {K : gC} : gOk K g_Ms mi_23 28 (ga_bast 29) := gs_zast (by decide +kernel : decode mi_23.2.1 28 = .ok (.bastore, 1)) rfl
theorem s_23_29 {K : gC} : gOk K g_Ms mi_23 29 (ga_iinc 2 1 32) := gs_iinc (by decide +kernel : decode mi_23.2.1 29 = .ok (.iinc 2 1, 3)) (by decide) rfl
theorem s_23_32 {K : gC} : gOk K g_Ms mi_23 32 (ga_goto 2) := gs_goto (by decide +kernel : decode mi_23.2.1 32 = .ok (.goto (-30), 3)) (by decide)
theorem s_23_35 {K : gC} : gOk K g_Ms mi_23 35 (ga_aload 0 36) := gs_aload_n (by decide +kernel : decode mi_23.2.1 35 = .ok (.aload_n 0, 1)) rfl rfl
theorem s_23_36 {K : gC} : gOk K g_Ms mi_23 36 (ga_push (.int 0) 37) := gs_iconst (by decide +kernel : decode mi_23.2.1 36 = .ok (.iconst 0, 1)) (by decide) rfl
theorem s_23_37 {K : gC} : gOk K g_Ms mi_23 37 (ga_putI 2 3 40) := gs_putI gcls_2 (by decide) (by decide) rfl rfl gw_151 (by decide +kernel : decode mi_23.2.1 37 = .ok (.putfield 23, 3)) rfl
theorem s_23_40 {K : gC} : gOk K g_Ms mi_23 40 (ga_aload 0 41) := gs_aload_n (by decide +kernel : decode mi_23.2.1 40 = .ok (.aload_n 0, 1)) rfl rfl
theorem s_23_41 {K : gC} : gOk K g_Ms mi_23 41 (ga_iload 1 42) := gs_iload_n (by decide +kernel : decode mi_23.2.1 41 = .ok (.iload_n 1, 1)) rfl rfl
theorem s_23_42 {K : gC} : gOk K g_Ms mi_23 42 (ga_putI 2 4 45) := gs_putI gcls_2 (by decide) (by decide) rfl rfl gw_153 (by decide +kernel : decode mi_23.2.1 42 = .ok (.putfield 27, 3)) rfl
theorem s_23_45 {K : gC} : gOk K g_Ms mi_23 45 (ga_vret) := gs_vret (by decide +kernel : decode mi_23.2.1 45 = .ok (.return_, 1)) rfl
theorem ok_23 {K : gC} : ∀ e ∈ t_23, gOk K g_Ms mi_23 e.1 e.2 := by
  unfold t_23
  simp only [List.forall_mem_cons, List.not_mem_nil, false_implies, implies_true, and_true]
  exact ⟨s_23_0, s_23_1, s_23_2, s_23_3, s_23_5, s_23_8, s_23_9, s_23_12, s_23_13, s_23_14, s_23_15, s_23_16, s_23_19, s_23_20, s_23_21, s_23_22, s_23_23, s_23_26, s_23_27, s_23_28, s_23_29, s_23_32, s_23_35, s_23_36, s_23_37, s_23_40, s_23_41, s_23_42, s_23_45⟩
theorem s_24_0 {K : gC} : gOk K g_Ms mi_24 0 (ga_push (.int 0) 1) := gs_iconst (by decide +kernel : decode mi_24.2.1 0 = .ok (.iconst 0, 1)) (by decide) rfl
theorem s_24_1 {K : gC} : gOk K g_Ms mi_24 1 (ga_istore 2 2) := gs_istore_n (by decide +kernel : decode mi_24.2.1 1 = .ok (.istore_n 2, 1)) rfl rfl
theorem s_24_2 {K : gC} : gOk K g_Ms mi_24 2 (ga_iload 2 3) := gs_iload_n (by decide +kernel : decode mi_24.2.1 2 = .ok (.iload_n 2, 1)) rfl rfl
theorem s_24_3 {K : gC} : gOk K g_Ms mi_24 3 (ga_push (.int 10) 5) := gs_bipush (by decide +kernel : decode mi_24.2.1 3 = .ok (.bipush 10, 2)) (by decide) rfl
theorem s_24_5 {K : gC} : gOk K g_Ms mi_24 5 (ga_cmp (fun x y => decide (y ≤ x)) 50 8) := gs_cmp_ge (by decide +kernel : decode mi_24.2.1 5 = .ok (.if_icmp .ge 45, 3)) (by decide) rfl
theorem s_24_8 {K : gC} : gOk K g_Ms mi_24 8 (ga_aload 0 9) := gs_aload_n (by decide +kernel : decode mi_24.2.1 8 = .ok (.aload_n 0, 1)) rfl rfl
theorem s_24_9 {K : gC} : gOk K g_Ms mi_24 9 (ga_getR 2 0 12) := gs_getR gcls_2 (by decide) (by decide) gw_146 (by decide +kernel : decode mi_24.2.1 9 = .ok (.getfield 9, 3)) rfl
theorem s_24_12 {K : gC} : gOk K g_Ms mi_24 12 (ga_iload 2 13) := gs_iload_n (by decide +kernel : decode mi_24.2.1 12 = .ok (.iload_n 2, 1)) rfl rfl
theorem s_24_13 {K : gC} : gOk K g_Ms mi_24 13 (ga_aload 1 14) := gs_aload_n (by decide +kernel : decode mi_24.2.1 13 = .ok (.aload_n 1, 1)) rfl rfl
theorem s_24_14 {K : gC} : gOk K g_Ms mi_24 14 (ga_getR 2 0 17) := gs_getR gcls_2 (by decide) (by decide) gw_146 (by decide +kernel : decode mi_24.2.1 14 = .ok (.getfield 9, 3)) rfl
theorem s_24_17 {K : gC} : gOk K g_Ms mi_24 17 (ga_iload 2 18) := gs_iload_n (by decide +kernel : decode mi_24.2.1 17 = .ok (.iload_n 2, 1)) rfl rfl
theorem s_24_18 {K : gC} : gOk K g_Ms mi_24 18 (ga_lald 19) := gs_lald (by decide +kernel : decode mi_24.2.1 18 = .ok (.laload, 1)) rfl
theorem s_24_19 {K : gC} : gOk K g_Ms mi_24 19 (ga_last 20) := gs_last (by decide +kernel : decode mi_24.2.1 19 = .ok (.lastore, 1)) rfl
theorem s_24_20 {K : gC} : gOk K g_Ms mi_24 20 (ga_aload 0 21) := gs_aload_n (by decide +kernel : decode mi_24.2.1 20 = .ok (.aload_n 0, 1)) rfl rfl
theorem s_24_21 {K : gC} : gOk K g_Ms mi_24 21 (ga_getR 2 1 24) := gs_getR gcls_2 (by decide) (by decide) gw_147 (by decide +kernel : decode mi_24.2.1 21 = .ok (.getfield 15, 3)) rfl
theorem s_24_24 {K : gC} : gOk K g_Ms mi_24 24 (ga_iload 2 25) := gs_iload_n (by decide +kernel : decode mi_24.2.1 24 = .ok (.iload_n 2, 1)) rfl rfl
theorem s_24_25 {K : gC} : gOk K g_Ms mi_24 25 (ga_aload 1 26) := gs_aload_n (by decide +kernel : decode mi_24.2.1 25 = .ok (.aload_n 1, 1)) rfl rfl
theorem s_24_26 {K : gC} : gOk K g_Ms mi_24 26 (ga_getR 2 1 29) := gs_getR gcls_2 (by decide) (by decide) gw_147 (by decide +kernel : decode mi_24.2.1 26 = .ok (.getfield 15, 3)) rfl
theorem s_24_29 {K : gC} : gOk K g_Ms mi_24 29 (ga_iload 2 30) := gs_iload_n (by decide +kernel : decode mi_24.2.1 29 = .ok (.iload_n 2, 1)) rfl rfl
theorem s_24_30 {K : gC} : gOk K g_Ms mi_24 30 (ga_iald 31) := gs_iald (by decide +kernel : decode mi_24.2.1 30 = .ok (.iaload, 1)) rfl
theorem s_24_31 {K : gC} : gOk K g_Ms mi_24 31 (ga_iast 32) := gs_iast (by decide +kernel : decode mi_24.2.1 31 = .ok (.iastore, 1)) rfl
theorem s_24_32 {K : gC} : gOk K g_Ms mi_24 32 (ga_aload 0 33) := gs_aload_n (by decide +kernel : decode mi_24.2.1 32 = .ok (.aload_n 0, 1)) rfl rfl
theorem s_24_33 {K : gC} : gOk K g_Ms mi_24 33 (ga_getR 2 2 36) := gs_getR gcls_2 (by decide) (by decide) gw_149 (by decide +kernel : decode mi_24.2.1 33 = .ok (.getfield 19, 3)) rfl
theorem s_24_36 {K : gC} : gOk K g_Ms mi_24 36 (ga_iload 2 37) := gs_iload_n (by decide +kernel : decode mi_24.2.1 36 = .ok (.iload_n 2, 1)) rfl rfl
theorem s_24_37 {K : gC} : gOk K g_Ms mi_24 37 (ga_aload 1 38) := gs_aload_n (by decide +kernel : decode mi_24.2.1 37 = .ok (.aload_n 1, 1)) rfl rfl
theorem s_24_38 {K : gC} : gOk K g_Ms mi_24 38 (ga_getR 2 2 41) := gs_getR gcls_2 (by decide) (by decide) gw_149 (by decide +kernel : decode mi_24.2.1 38 = .ok (.getfield 19, 3)) rfl
theorem s_24_41 {K : gC} : gOk K g_Ms mi_24 41 (ga_iload 2 42) := gs_iload_n (by decide +kernel : decode mi_24.2.1 41 = .ok (.iload_n 2, 1)) rfl rfl
theorem s_24_42 {K : gC} : gOk K g_Ms mi_24 42 (ga_bald 43) := gs_zald (by decide +kernel : decode mi_24.2.1 42 = .ok (.baload, 1)) rfl
theorem s_24_43 {K : gC} : gOk K g_Ms mi_24 43 (ga_bast 44) := gs_zast (by decide +kernel : decode mi_24.2.1 43 = .ok (.bastore, 1)) rfl
theorem s_24_44 {K : gC} : gOk K g_Ms mi_24 44 (ga_iinc 2 1 47) := gs_iinc (by decide +kernel : decode mi_24.2.1 44 = .ok (.iinc 2 1, 3)) (by decide) rfl
theorem s_24_47 {K : gC} : gOk K g_Ms mi_24 47 (ga_goto 2) := gs_goto (by decide +kernel : decode mi_24.2.1 47 = .ok (.goto (-45), 3)) (by decide)
theorem s_24_50 {K : gC} : gOk K g_Ms mi_24 50 (ga_aload 0 51) := gs_aload_n (by decide +kernel : decode mi_24.2.1 50 = .ok (.aload_n 0, 1)) rfl rfl
theorem s_24_51 {K : gC} : gOk K g_Ms mi_24 51 (ga_aload 1 52) := gs_aload_n (by decide +kernel : decode mi_24.2.1 51 = .ok (.aload_n 1, 1)) rfl rfl
theorem s_24_52 {K : gC} : gOk K g_Ms mi_24 52 (ga_getI 2 3 55) := gs_getI gcls_2 (by decide) (by decide) gw_151 (by decide +kernel : decode mi_24.2.1 52 = .ok (.getfield 23, 3)) rfl
theorem s_24_55 {K : gC} : gOk K g_Ms mi_24 55 (ga_putI 2 3 58) := gs_putI gcls_2 (by decide) (by decide) rfl rfl gw_151 (by decide +kernel : decode mi_24.2.1 55 = .ok (.putfield 23, 3)) rfl
theorem s_24_58 {K : gC} : gOk K g_Ms mi_24 58 (ga_aload 0 59) := gs_aload_n (by decide +kernel : decode mi_24.2.1 58 = .ok (.aload_n 0, 1)) rfl rfl
theorem s_24_59 {K : gC} : gOk K g_Ms mi_24 59 (ga_aload 1 60) := gs_aload_n (by decide +kernel : decode mi_24.2.1 59 = .ok (.aload_n 1, 1)) rfl rfl
theorem s_24_60 {K : gC} : gOk K g_Ms mi_24 60 (ga_getI 2 4 63) := gs_getI gcls_2 (by decide) (by decide) gw_153 (by decide +kernel : decode mi_24.2.1 60 = .ok (.getfield 27, 3)) rfl
theorem s_24_63 {K : gC} : gOk K g_Ms mi_24 63 (ga_putI 2 4 66) := gs_putI gcls_2 (by decide) (by decide) rfl rfl gw_153 (by decide +kernel : decode mi_24.2.1 63 = .ok (.putfield 27, 3)) rfl
theorem s_24_66 {K : gC} : gOk K g_Ms mi_24 66 (ga_vret) := gs_vret (by decide +kernel : decode mi_24.2.1 66 = .ok (.return_, 1)) rfl
theorem ok_24 {K : gC} : ∀ e ∈ t_24, gOk K g_Ms mi_24 e.1 e.2 := by
  unfold t_24
  simp only [List.forall_mem_cons, List.not_mem_nil, false_implies, implies_true, and_true]
  exact ⟨s_24_0, s_24_1, s_24_2, s_24_3, s_24_5, s_24_8, s_24_9, s_24_12, s_24_13, s_24_14, s_24_17, s_24_18, s_24_19, s_24_20, s_24_21, s_24_24, s_24_25, s_24_26, s_24_29, s_24_30, s_24_31, s_24_32, s_24_33, s_24_36, s_24_37, s_24_38, s_24_41, s_24_42, s_24_43, s_24_44, s_24_47, s_24_50, s_24_51, s_24_52, s_24_55, s_24_58, s_24_59, s_24_60, s_24_63, s_24_66⟩
theorem s_25_0 {K : gC} : gOk K g_Ms mi_25 0 (ga_aload 0 1) := gs_aload_n (by decide +kernel : decode mi_25.2.1 0 = .ok (.aload_n 0, 1)) rfl rfl
theorem s_25_1 {K : gC} : gOk K g_Ms mi_25 1 (ga_getR 2 1 4) := gs_getR gcls_2 (by decide) (by decide) gw_147 (by decide +kernel : decode mi_25.2.1 1 = .ok (.getfield 15, 3)) rfl
theorem s_25_4 {K : gC} : gOk K g_Ms mi_25 4 (ga_iload 2 5) := gs_iload_n (by decide +kernel : decode mi_25.2.1 4 = .ok (.iload_n 2, 1)) rfl rfl
theorem s_25_5 {K : gC} : gOk K g_Ms mi_25 5 (ga_dup2 6) := gs_dup2 (by decide +kernel : decode mi_25.2.1 5 = .ok (.dup2, 1)) rfl
theorem s_25_6 {K : gC} : gOk K g_Ms mi_25 6 (ga_iald 7) := gs_iald (by decide +kernel : decode mi_25.2.1 6 = .ok (.iaload, 1)) rfl
theorem s_25_7 {K : gC} : gOk K g_Ms mi_25 7 (ga_push (.int 1) 8) := gs_iconst (by decide +kernel : decode mi_25.2.1 7 = .ok (.iconst 1, 1)) (by decide) rfl
theorem s_25_8 {K : gC} : gOk K g_Ms mi_25 8 (ga_bin (fun x y => x + y) 9) := gs_iadd (by decide +kernel : decode mi_25.2.1 8 = .ok (.iadd, 1)) rfl
theorem s_25_9 {K : gC} : gOk K g_Ms mi_25 9 (ga_iast 10) := gs_iast (by decide +kernel : decode mi_25.2.1 9 = .ok (.iastore, 1)) rfl
theorem s_25_10 {K : gC} : gOk K g_Ms mi_25 10 (ga_push (.int 0) 11) := gs_iconst (by decide +kernel : decode mi_25.2.1 10 = .ok (.iconst 0, 1)) (by decide) rfl
theorem s_25_11 {K : gC} : gOk K g_Ms mi_25 11 (ga_istore 3 12) := gs_istore_n (by decide +kernel : decode mi_25.2.1 11 = .ok (.istore_n 3, 1)) rfl rfl
theorem s_25_12 {K : gC} : gOk K g_Ms mi_25 12 (ga_push (.int 0) 13) := gs_iconst (by decide +kernel : decode mi_25.2.1 12 = .ok (.iconst 0, 1)) (by decide) rfl
theorem s_25_13 {K : gC} : gOk K g_Ms mi_25 13 (ga_istore 4 15) := gs_istore (by decide +kernel : decode mi_25.2.1 13 = .ok (.istore 4, 2)) rfl
theorem s_25_15 {K : gC} : gOk K g_Ms mi_25 15 (ga_iload 4 17) := gs_iload (by decide +kernel : decode mi_25.2.1 15 = .ok (.iload 4, 2)) rfl
theorem s_25_17 {K : gC} : gOk K g_Ms mi_25 17 (ga_aload 1 18) := gs_aload_n (by decide +kernel : decode mi_25.2.1 17 = .ok (.aload_n 1, 1)) rfl rfl
theorem s_25_18 {K : gC} : gOk K g_Ms mi_25 18 (ga_getI 0 4 21) := gs_getI gcls_0 (by decide) (by decide) gw_120 (by decide +kernel : decode mi_25.2.1 18 = .ok (.getfield 30, 3)) rfl
theorem s_25_21 {K : gC} : gOk K g_Ms mi_25 21 (ga_cmp (fun x y => decide (y ≤ x)) 93 24) := gs_cmp_ge (by decide +kernel : decode mi_25.2.1 21 = .ok (.if_icmp .ge 72, 3)) (by decide) rfl
theorem s_25_24 {K : gC} : gOk K g_Ms mi_25 24 (ga_aload 1 25) := gs_aload_n (by decide +kernel : decode mi_25.2.1 24 = .ok (.aload_n 1, 1)) rfl rfl
theorem s_25_25 {K : gC} : gOk K g_Ms mi_25 25 (ga_getR 0 0 28) := gs_getR gcls_0 (by decide) (by decide) gw_104 (by decide +kernel : decode mi_25.2.1 25 = .ok (.getfield 35, 3)) rfl
theorem s_25_28 {K : gC} : gOk K g_Ms mi_25 28 (ga_iload 4 30) := gs_iload (by decide +kernel : decode mi_25.2.1 28 = .ok (.iload 4, 2)) rfl
theorem s_25_30 {K : gC} : gOk K g_Ms mi_25 30 (ga_iald 31) := gs_iald (by decide +kernel : decode mi_25.2.1 30 = .ok (.iaload, 1)) rfl
theorem s_25_31 {K : gC} : gOk K g_Ms mi_25 31 (ga_iload 2 32) := gs_iload_n (by decide +kernel : decode mi_25.2.1 31 = .ok (.iload_n 2, 1)) rfl rfl
theorem s_25_32 {K : gC} : gOk K g_Ms mi_25 32 (ga_cmp (fun x y => decide (¬ x = y)) 87 35) := gs_cmp_ne (by decide +kernel : decode mi_25.2.1 32 = .ok (.if_icmp .ne 55, 3)) (by decide) rfl
theorem s_25_35 {K : gC} : gOk K g_Ms mi_25 35 (ga_aload 1 36) := gs_aload_n (by decide +kernel : decode mi_25.2.1 35 = .ok (.aload_n 1, 1)) rfl rfl
theorem s_25_36 {K : gC} : gOk K g_Ms mi_25 36 (ga_iload 4 38) := gs_iload (by decide +kernel : decode mi_25.2.1 36 = .ok (.iload 4, 2)) rfl
theorem s_25_38 {K : gC} : gOk K g_Ms mi_25 38 (ga_aload 0 39) := gs_aload_n (by decide +kernel : decode mi_25.2.1 38 = .ok (.aload_n 0, 1)) rfl rfl
theorem s_25_39 {K : gC} : gOk K g_Ms mi_25 39 (ga_getI 2 4 42) := gs_getI gcls_2 (by decide) (by decide) gw_153 (by decide +kernel : decode mi_25.2.1 39 = .ok (.getfield 27, 3)) rfl
theorem s_25_42 {K : gC} : gOk K g_Ms mi_25 42 (ga_callV 0 4 2 45) := gs_callV gcls_0 (gce_X0_canHear (by decide) (by decide)) gw_453 gw_421 gw_422 (by decide +kernel : decode mi_25.2.1 42 = .ok (.invokevirtual 38, 3)) rfl
theorem s_25_45 {K : gC} : gOk K g_Ms mi_25 45 (ga_if (fun x => decide (x = 0)) 87 48) := gs_if_eq (by decide +kernel : decode mi_25.2.1 45 = .ok (.ifCond .eq 42, 3)) (by decide) rfl
theorem s_25_48 {K : gC} : gOk K g_Ms mi_25 48 (ga_aload 0 49) := gs_aload_n (by decide +kernel : decode mi_25.2.1 48 = .ok (.aload_n 0, 1)) rfl rfl
theorem s_25_49 {K : gC} : gOk K g_Ms mi_25 49 (ga_aload 1 50) := gs_aload_n (by decide +kernel : decode mi_25.2.1 49 = .ok (.aload_n 1, 1)) rfl rfl
theorem s_25_50 {K : gC} : gOk K g_Ms mi_25 50 (ga_iload 4 52) := gs_iload (by decide +kernel : decode mi_25.2.1 50 = .ok (.iload 4, 2)) rfl
theorem s_25_52 {K : gC} : gOk K g_Ms mi_25 52 (ga_callV 2 26 2 55) := gs_callV gcls_2 (gce_X2_heeds (by decide) (by decide)) gw_454 gw_456 gw_10 (by decide +kernel : decode mi_25.2.1 52 = .ok (.invokevirtual 42, 3)) rfl
theorem s_25_55 {K : gC} : gOk K g_Ms mi_25 55 (ga_if (fun x => decide (x = 0)) 87 58) := gs_if_eq (by decide +kernel : decode mi_25.2.1 55 = .ok (.ifCond .eq 32, 3)) (by decide) rfl
theorem s_25_58 {K : gC} : gOk K g_Ms mi_25 58 (ga_aload 0 59) := gs_aload_n (by decide +kernel : decode mi_25.2.1 58 = .ok (.aload_n 0, 1)) rfl rfl
theorem s_25_59 {K : gC} : gOk K g_Ms mi_25 59 (ga_getR 2 0 62) := gs_getR gcls_2 (by decide) (by decide) gw_146 (by decide +kernel : decode mi_25.2.1 59 = .ok (.getfield 9, 3)) rfl
theorem s_25_62 {K : gC} : gOk K g_Ms mi_25 62 (ga_iload 4 64) := gs_iload (by decide +kernel : decode mi_25.2.1 62 = .ok (.iload 4, 2)) rfl
theorem s_25_64 {K : gC} : gOk K g_Ms mi_25 64 (ga_dup2 65) := gs_dup2 (by decide +kernel : decode mi_25.2.1 64 = .ok (.dup2, 1)) rfl
theorem s_25_65 {K : gC} : gOk K g_Ms mi_25 65 (ga_lald 66) := gs_lald (by decide +kernel : decode mi_25.2.1 65 = .ok (.laload, 1)) rfl
theorem s_25_66 {K : gC} : gOk K g_Ms mi_25 66 (ga_push (.long 1) 67) := gs_lconst (by decide +kernel : decode mi_25.2.1 66 = .ok (.lconst 1, 1)) (by decide) rfl
theorem s_25_67 {K : gC} : gOk K g_Ms mi_25 67 (ga_aload 1 68) := gs_aload_n (by decide +kernel : decode mi_25.2.1 67 = .ok (.aload_n 1, 1)) rfl rfl
theorem s_25_68 {K : gC} : gOk K g_Ms mi_25 68 (ga_iload 4 70) := gs_iload (by decide +kernel : decode mi_25.2.1 68 = .ok (.iload 4, 2)) rfl
theorem s_25_70 {K : gC} : gOk K g_Ms mi_25 70 (ga_aload 0 71) := gs_aload_n (by decide +kernel : decode mi_25.2.1 70 = .ok (.aload_n 0, 1)) rfl rfl
theorem s_25_71 {K : gC} : gOk K g_Ms mi_25 71 (ga_getI 2 4 74) := gs_getI gcls_2 (by decide) (by decide) gw_153 (by decide +kernel : decode mi_25.2.1 71 = .ok (.getfield 27, 3)) rfl
theorem s_25_74 {K : gC} : gOk K g_Ms mi_25 74 (ga_callV 0 5 2 77) := gs_callV gcls_0 (gce_X0_late (by decide) (by decide)) gw_458 gw_433 gw_434 (by decide +kernel : decode mi_25.2.1 74 = .ok (.invokevirtual 46, 3)) rfl
theorem s_25_77 {K : gC} : gOk K g_Ms mi_25 77 (ga_lsh (fun x y => x <<< (y.toInt64 &&& 63)) 78) := gs_lshl (by decide +kernel : decode mi_25.2.1 77 = .ok (.lshl, 1)) rfl
theorem s_25_78 {K : gC} : gOk K g_Ms mi_25 78 (ga_lbin (fun x y => x ||| y) 79) := gs_lor (by decide +kernel : decode mi_25.2.1 78 = .ok (.lor, 1)) rfl
theorem s_25_79 {K : gC} : gOk K g_Ms mi_25 79 (ga_last 80) := gs_last (by decide +kernel : decode mi_25.2.1 79 = .ok (.lastore, 1)) rfl
theorem s_25_80 {K : gC} : gOk K g_Ms mi_25 80 (ga_iload 3 81) := gs_iload_n (by decide +kernel : decode mi_25.2.1 80 = .ok (.iload_n 3, 1)) rfl rfl
theorem s_25_81 {K : gC} : gOk K g_Ms mi_25 81 (ga_push (.int 1) 82) := gs_iconst (by decide +kernel : decode mi_25.2.1 81 = .ok (.iconst 1, 1)) (by decide) rfl
theorem s_25_82 {K : gC} : gOk K g_Ms mi_25 82 (ga_iload 4 84) := gs_iload (by decide +kernel : decode mi_25.2.1 82 = .ok (.iload 4, 2)) rfl
theorem s_25_84 {K : gC} : gOk K g_Ms mi_25 84 (ga_bin (fun x y => x <<< (y &&& 31)) 85) := gs_ishl (by decide +kernel : decode mi_25.2.1 84 = .ok (.ishl, 1)) rfl
theorem s_25_85 {K : gC} : gOk K g_Ms mi_25 85 (ga_bin (fun x y => x ||| y) 86) := gs_ior (by decide +kernel : decode mi_25.2.1 85 = .ok (.ior, 1)) rfl
theorem s_25_86 {K : gC} : gOk K g_Ms mi_25 86 (ga_istore 3 87) := gs_istore_n (by decide +kernel : decode mi_25.2.1 86 = .ok (.istore_n 3, 1)) rfl rfl
theorem s_25_87 {K : gC} : gOk K g_Ms mi_25 87 (ga_iinc 4 1 90) := gs_iinc (by decide +kernel : decode mi_25.2.1 87 = .ok (.iinc 4 1, 3)) (by decide) rfl
theorem s_25_90 {K : gC} : gOk K g_Ms mi_25 90 (ga_goto 15) := gs_goto (by decide +kernel : decode mi_25.2.1 90 = .ok (.goto (-75), 3)) (by decide)
theorem s_25_93 {K : gC} : gOk K g_Ms mi_25 93 (ga_iload 3 94) := gs_iload_n (by decide +kernel : decode mi_25.2.1 93 = .ok (.iload_n 3, 1)) rfl rfl
theorem s_25_94 {K : gC} : gOk K g_Ms mi_25 94 (ga_iret) := gs_iret (by decide +kernel : decode mi_25.2.1 94 = .ok (.ireturn, 1)) rfl
theorem ok_25 {K : gC} : ∀ e ∈ t_25, gOk K g_Ms mi_25 e.1 e.2 := by
  unfold t_25
  simp only [List.forall_mem_cons, List.not_mem_nil, false_implies, implies_true, and_true]
  exact ⟨s_25_0, s_25_1, s_25_4, s_25_5, s_25_6, s_25_7, s_25_8, s_25_9, s_25_10, s_25_11, s_25_12, s_25_13, s_25_15, s_25_17, s_25_18, s_25_21, s_25_24, s_25_25, s_25_28, s_25_30, s_25_31, s_25_32, s_25_35, s_25_36, s_25_38, s_25_39, s_25_42, s_25_45, s_25_48, s_25_49, s_25_50, s_25_52, s_25_55, s_25_58, s_25_59, s_25_62, s_25_64, s_25_65, s_25_66, s_25_67, s_25_68, s_25_70, s_25_71, s_25_74, s_25_77, s_25_78, s_25_79, s_25_80, s_25_81, s_25_82, s_25_84, s_25_85, s_25_86, s_25_87, s_25_90, s_25_93, s_25_94⟩
theorem s_26_0 {K : gC} : gOk K g_Ms mi_26 0 (ga_aload 1 1) := gs_aload_n (by decide +kernel : decode mi_26.2.1 0 = .ok (.aload_n 1, 1)) rfl rfl
theorem s_26_1 {K : gC} : gOk K g_Ms mi_26 1 (ga_getR 0 2 4) := gs_getR gcls_0 (by decide) (by decide) gw_112 (by decide +kernel : decode mi_26.2.1 1 = .ok (.getfield 50, 3)) rfl
theorem s_26_4 {K : gC} : gOk K g_Ms mi_26 4 (ga_iload 2 5) := gs_iload_n (by decide +kernel : decode mi_26.2.1 4 = .ok (.iload_n 2, 1)) rfl rfl
theorem s_26_5 {K : gC} : gOk K g_Ms mi_26 5 (ga_iald 6) := gs_iald (by decide +kernel : decode mi_26.2.1 5 = .ok (.iaload, 1)) rfl
theorem s_26_6 {K : gC} : gOk K g_Ms mi_26 6 (ga_push (.int 3) 7) := gs_iconst (by decide +kernel : decode mi_26.2.1 6 = .ok (.iconst 3, 1)) (by decide) rfl
theorem s_26_7 {K : gC} : gOk K g_Ms mi_26 7 (ga_cmp (fun x y => decide (x = y)) 12 10) := gs_cmp_eq (by decide +kernel : decode mi_26.2.1 7 = .ok (.if_icmp .eq 5, 3)) (by decide) rfl
theorem s_26_10 {K : gC} : gOk K g_Ms mi_26 10 (ga_push (.int 1) 11) := gs_iconst (by decide +kernel : decode mi_26.2.1 10 = .ok (.iconst 1, 1)) (by decide) rfl
theorem s_26_11 {K : gC} : gOk K g_Ms mi_26 11 (ga_zret) := gs_zret (by decide +kernel : decode mi_26.2.1 11 = .ok (.ireturn, 1)) rfl rfl rfl
theorem s_26_12 {K : gC} : gOk K g_Ms mi_26 12 (ga_aload 0 13) := gs_aload_n (by decide +kernel : decode mi_26.2.1 12 = .ok (.aload_n 0, 1)) rfl rfl
theorem s_26_13 {K : gC} : gOk K g_Ms mi_26 13 (ga_getR 2 2 16) := gs_getR gcls_2 (by decide) (by decide) gw_149 (by decide +kernel : decode mi_26.2.1 13 = .ok (.getfield 19, 3)) rfl
theorem s_26_16 {K : gC} : gOk K g_Ms mi_26 16 (ga_iload 2 17) := gs_iload_n (by decide +kernel : decode mi_26.2.1 16 = .ok (.iload_n 2, 1)) rfl rfl
theorem s_26_17 {K : gC} : gOk K g_Ms mi_26 17 (ga_aload 0 18) := gs_aload_n (by decide +kernel : decode mi_26.2.1 17 = .ok (.aload_n 0, 1)) rfl rfl
theorem s_26_18 {K : gC} : gOk K g_Ms mi_26 18 (ga_getR 2 2 21) := gs_getR gcls_2 (by decide) (by decide) gw_149 (by decide +kernel : decode mi_26.2.1 18 = .ok (.getfield 19, 3)) rfl
theorem s_26_21 {K : gC} : gOk K g_Ms mi_26 21 (ga_iload 2 22) := gs_iload_n (by decide +kernel : decode mi_26.2.1 21 = .ok (.iload_n 2, 1)) rfl rfl
theorem s_26_22 {K : gC} : gOk K g_Ms mi_26 22 (ga_bald 23) := gs_zald (by decide +kernel : decode mi_26.2.1 22 = .ok (.baload, 1)) rfl
theorem s_26_23 {K : gC} : gOk K g_Ms mi_26 23 (ga_if (fun x => decide (¬ x = 0)) 30 26) := gs_if_ne (by decide +kernel : decode mi_26.2.1 23 = .ok (.ifCond .ne 7, 3)) (by decide) rfl
theorem s_26_26 {K : gC} : gOk K g_Ms mi_26 26 (ga_push (.int 1) 27) := gs_iconst (by decide +kernel : decode mi_26.2.1 26 = .ok (.iconst 1, 1)) (by decide) rfl
theorem s_26_27 {K : gC} : gOk K g_Ms mi_26 27 (ga_goto 31) := gs_goto (by decide +kernel : decode mi_26.2.1 27 = .ok (.goto 4, 3)) (by decide)
theorem s_26_30 {K : gC} : gOk K g_Ms mi_26 30 (ga_push (.int 0) 31) := gs_iconst (by decide +kernel : decode mi_26.2.1 30 = .ok (.iconst 0, 1)) (by decide) rfl
theorem s_26_31 {K : gC} : gOk K g_Ms mi_26 31 (ga_bast 32) := gs_zast (by decide +kernel : decode mi_26.2.1 31 = .ok (.bastore, 1)) rfl
theorem s_26_32 {K : gC} : gOk K g_Ms mi_26 32 (ga_aload 0 33) := gs_aload_n (by decide +kernel : decode mi_26.2.1 32 = .ok (.aload_n 0, 1)) rfl rfl
theorem s_26_33 {K : gC} : gOk K g_Ms mi_26 33 (ga_getR 2 2 36) := gs_getR gcls_2 (by decide) (by decide) gw_149 (by decide +kernel : decode mi_26.2.1 33 = .ok (.getfield 19, 3)) rfl
theorem s_26_36 {K : gC} : gOk K g_Ms mi_26 36 (ga_iload 2 37) := gs_iload_n (by decide +kernel : decode mi_26.2.1 36 = .ok (.iload_n 2, 1)) rfl rfl
theorem s_26_37 {K : gC} : gOk K g_Ms mi_26 37 (ga_bald 38) := gs_zald (by decide +kernel : decode mi_26.2.1 37 = .ok (.baload, 1)) rfl
theorem s_26_38 {K : gC} : gOk K g_Ms mi_26 38 (ga_if (fun x => decide (¬ x = 0)) 45 41) := gs_if_ne (by decide +kernel : decode mi_26.2.1 38 = .ok (.ifCond .ne 7, 3)) (by decide) rfl
theorem s_26_41 {K : gC} : gOk K g_Ms mi_26 41 (ga_push (.int 1) 42) := gs_iconst (by decide +kernel : decode mi_26.2.1 41 = .ok (.iconst 1, 1)) (by decide) rfl
theorem s_26_42 {K : gC} : gOk K g_Ms mi_26 42 (ga_goto 46) := gs_goto (by decide +kernel : decode mi_26.2.1 42 = .ok (.goto 4, 3)) (by decide)
theorem s_26_45 {K : gC} : gOk K g_Ms mi_26 45 (ga_push (.int 0) 46) := gs_iconst (by decide +kernel : decode mi_26.2.1 45 = .ok (.iconst 0, 1)) (by decide) rfl
theorem s_26_46 {K : gC} : gOk K g_Ms mi_26 46 (ga_zret) := gs_zret (by decide +kernel : decode mi_26.2.1 46 = .ok (.ireturn, 1)) rfl rfl rfl
theorem ok_26 {K : gC} : ∀ e ∈ t_26, gOk K g_Ms mi_26 e.1 e.2 := by
  unfold t_26
  simp only [List.forall_mem_cons, List.not_mem_nil, false_implies, implies_true, and_true]
  exact ⟨s_26_0, s_26_1, s_26_4, s_26_5, s_26_6, s_26_7, s_26_10, s_26_11, s_26_12, s_26_13, s_26_16, s_26_17, s_26_18, s_26_21, s_26_22, s_26_23, s_26_26, s_26_27, s_26_30, s_26_31, s_26_32, s_26_33, s_26_36, s_26_37, s_26_38, s_26_41, s_26_42, s_26_45, s_26_46⟩
theorem s_27_0 {K : gC} : gOk K g_Ms mi_27 0 (ga_aload 0 1) := gs_aload_n (by decide +kernel : decode mi_27.2.1 0 = .ok (.aload_n 0, 1)) rfl rfl
theorem s_27_1 {K : gC} : gOk K g_Ms mi_27 1 (ga_dup 2) := gs_dup (by decide +kernel : decode mi_27.2.1 1 = .ok (.dup, 1)) rfl
theorem s_27_2 {K : gC} : gOk K g_Ms mi_27 2 (ga_getI 2 3 5) := gs_getI gcls_2 (by decide) (by decide) gw_151 (by decide +kernel : decode mi_27.2.1 2 = .ok (.getfield 23, 3)) rfl
theorem s_27_5 {K : gC} : gOk K g_Ms mi_27 5 (ga_push (.int 1) 6) := gs_iconst (by decide +kernel : decode mi_27.2.1 5 = .ok (.iconst 1, 1)) (by decide) rfl
theorem s_27_6 {K : gC} : gOk K g_Ms mi_27 6 (ga_bin (fun x y => x + y) 7) := gs_iadd (by decide +kernel : decode mi_27.2.1 6 = .ok (.iadd, 1)) rfl
theorem s_27_7 {K : gC} : gOk K g_Ms mi_27 7 (ga_putI 2 3 10) := gs_putI gcls_2 (by decide) (by decide) rfl rfl gw_151 (by decide +kernel : decode mi_27.2.1 7 = .ok (.putfield 23, 3)) rfl
theorem s_27_10 {K : gC} : gOk K g_Ms mi_27 10 (ga_push (.int 0) 11) := gs_iconst (by decide +kernel : decode mi_27.2.1 10 = .ok (.iconst 0, 1)) (by decide) rfl
theorem s_27_11 {K : gC} : gOk K g_Ms mi_27 11 (ga_istore 2 12) := gs_istore_n (by decide +kernel : decode mi_27.2.1 11 = .ok (.istore_n 2, 1)) rfl rfl
theorem s_27_12 {K : gC} : gOk K g_Ms mi_27 12 (ga_push (.int 0) 13) := gs_iconst (by decide +kernel : decode mi_27.2.1 12 = .ok (.iconst 0, 1)) (by decide) rfl
theorem s_27_13 {K : gC} : gOk K g_Ms mi_27 13 (ga_istore 3 14) := gs_istore_n (by decide +kernel : decode mi_27.2.1 13 = .ok (.istore_n 3, 1)) rfl rfl
theorem s_27_14 {K : gC} : gOk K g_Ms mi_27 14 (ga_iload 3 15) := gs_iload_n (by decide +kernel : decode mi_27.2.1 14 = .ok (.iload_n 3, 1)) rfl rfl
theorem s_27_15 {K : gC} : gOk K g_Ms mi_27 15 (ga_aload 1 16) := gs_aload_n (by decide +kernel : decode mi_27.2.1 15 = .ok (.aload_n 1, 1)) rfl rfl
theorem s_27_16 {K : gC} : gOk K g_Ms mi_27 16 (ga_getI 0 4 19) := gs_getI gcls_0 (by decide) (by decide) gw_120 (by decide +kernel : decode mi_27.2.1 16 = .ok (.getfield 30, 3)) rfl
theorem s_27_19 {K : gC} : gOk K g_Ms mi_27 19 (ga_cmp (fun x y => decide (y ≤ x)) 67 22) := gs_cmp_ge (by decide +kernel : decode mi_27.2.1 19 = .ok (.if_icmp .ge 48, 3)) (by decide) rfl
theorem s_27_22 {K : gC} : gOk K g_Ms mi_27 22 (ga_aload 0 23) := gs_aload_n (by decide +kernel : decode mi_27.2.1 22 = .ok (.aload_n 0, 1)) rfl rfl
theorem s_27_23 {K : gC} : gOk K g_Ms mi_27 23 (ga_getR 2 0 26) := gs_getR gcls_2 (by decide) (by decide) gw_146 (by decide +kernel : decode mi_27.2.1 23 = .ok (.getfield 9, 3)) rfl
theorem s_27_26 {K : gC} : gOk K g_Ms mi_27 26 (ga_iload 3 27) := gs_iload_n (by decide +kernel : decode mi_27.2.1 26 = .ok (.iload_n 3, 1)) rfl rfl
theorem s_27_27 {K : gC} : gOk K g_Ms mi_27 27 (ga_dup2 28) := gs_dup2 (by decide +kernel : decode mi_27.2.1 27 = .ok (.dup2, 1)) rfl
theorem s_27_28 {K : gC} : gOk K g_Ms mi_27 28 (ga_lald 29) := gs_lald (by decide +kernel : decode mi_27.2.1 28 = .ok (.laload, 1)) rfl
theorem s_27_29 {K : gC} : gOk K g_Ms mi_27 29 (ga_push (.int 1) 30) := gs_iconst (by decide +kernel : decode mi_27.2.1 29 = .ok (.iconst 1, 1)) (by decide) rfl
theorem s_27_30 {K : gC} : gOk K g_Ms mi_27 30 (ga_lsh (fun x y => x >>> (y.toInt64 &&& 63)) 31) := gs_lshr (by decide +kernel : decode mi_27.2.1 30 = .ok (.lshr, 1)) rfl
theorem s_27_31 {K : gC} : gOk K g_Ms mi_27 31 (ga_last 32) := gs_last (by decide +kernel : decode mi_27.2.1 31 = .ok (.lastore, 1)) rfl
theorem s_27_32 {K : gC} : gOk K g_Ms mi_27 32 (ga_aload 0 33) := gs_aload_n (by decide +kernel : decode mi_27.2.1 32 = .ok (.aload_n 0, 1)) rfl rfl
theorem s_27_33 {K : gC} : gOk K g_Ms mi_27 33 (ga_getR 2 0 36) := gs_getR gcls_2 (by decide) (by decide) gw_146 (by decide +kernel : decode mi_27.2.1 33 = .ok (.getfield 9, 3)) rfl
theorem s_27_36 {K : gC} : gOk K g_Ms mi_27 36 (ga_iload 3 37) := gs_iload_n (by decide +kernel : decode mi_27.2.1 36 = .ok (.iload_n 3, 1)) rfl rfl
theorem s_27_37 {K : gC} : gOk K g_Ms mi_27 37 (ga_lald 38) := gs_lald (by decide +kernel : decode mi_27.2.1 37 = .ok (.laload, 1)) rfl
theorem s_27_38 {K : gC} : gOk K g_Ms mi_27 38 (ga_push (.long 1) 39) := gs_lconst (by decide +kernel : decode mi_27.2.1 38 = .ok (.lconst 1, 1)) (by decide) rfl
theorem s_27_39 {K : gC} : gOk K g_Ms mi_27 39 (ga_lbin (fun x y => x &&& y) 40) := gs_land (by decide +kernel : decode mi_27.2.1 39 = .ok (.land, 1)) rfl
theorem s_27_40 {K : gC} : gOk K g_Ms mi_27 40 (ga_push (.long 0) 41) := gs_lconst (by decide +kernel : decode mi_27.2.1 40 = .ok (.lconst 0, 1)) (by decide) rfl
theorem s_27_41 {K : gC} : gOk K g_Ms mi_27 41 (ga_lcmp 42) := gs_lcmp (by decide +kernel : decode mi_27.2.1 41 = .ok (.lcmp, 1)) rfl
theorem s_27_42 {K : gC} : gOk K g_Ms mi_27 42 (ga_if (fun x => decide (x = 0)) 61 45) := gs_if_eq (by decide +kernel : decode mi_27.2.1 42 = .ok (.ifCond .eq 19, 3)) (by decide) rfl
theorem s_27_45 {K : gC} : gOk K g_Ms mi_27 45 (ga_aload 0 46) := gs_aload_n (by decide +kernel : decode mi_27.2.1 45 = .ok (.aload_n 0, 1)) rfl rfl
theorem s_27_46 {K : gC} : gOk K g_Ms mi_27 46 (ga_getR 2 0 49) := gs_getR gcls_2 (by decide) (by decide) gw_146 (by decide +kernel : decode mi_27.2.1 46 = .ok (.getfield 9, 3)) rfl
theorem s_27_49 {K : gC} : gOk K g_Ms mi_27 49 (ga_iload 3 50) := gs_iload_n (by decide +kernel : decode mi_27.2.1 49 = .ok (.iload_n 3, 1)) rfl rfl
theorem s_27_50 {K : gC} : gOk K g_Ms mi_27 50 (ga_dup2 51) := gs_dup2 (by decide +kernel : decode mi_27.2.1 50 = .ok (.dup2, 1)) rfl
theorem s_27_51 {K : gC} : gOk K g_Ms mi_27 51 (ga_lald 52) := gs_lald (by decide +kernel : decode mi_27.2.1 51 = .ok (.laload, 1)) rfl
theorem s_27_52 {K : gC} : gOk K g_Ms mi_27 52 (ga_push (.long 1) 53) := gs_lconst (by decide +kernel : decode mi_27.2.1 52 = .ok (.lconst 1, 1)) (by decide) rfl
theorem s_27_53 {K : gC} : gOk K g_Ms mi_27 53 (ga_lbin (fun x y => x ^^^ y) 54) := gs_lxor (by decide +kernel : decode mi_27.2.1 53 = .ok (.lxor, 1)) rfl
theorem s_27_54 {K : gC} : gOk K g_Ms mi_27 54 (ga_last 55) := gs_last (by decide +kernel : decode mi_27.2.1 54 = .ok (.lastore, 1)) rfl
theorem s_27_55 {K : gC} : gOk K g_Ms mi_27 55 (ga_iload 2 56) := gs_iload_n (by decide +kernel : decode mi_27.2.1 55 = .ok (.iload_n 2, 1)) rfl rfl
theorem s_27_56 {K : gC} : gOk K g_Ms mi_27 56 (ga_push (.int 1) 57) := gs_iconst (by decide +kernel : decode mi_27.2.1 56 = .ok (.iconst 1, 1)) (by decide) rfl
theorem s_27_57 {K : gC} : gOk K g_Ms mi_27 57 (ga_iload 3 58) := gs_iload_n (by decide +kernel : decode mi_27.2.1 57 = .ok (.iload_n 3, 1)) rfl rfl
theorem s_27_58 {K : gC} : gOk K g_Ms mi_27 58 (ga_bin (fun x y => x <<< (y &&& 31)) 59) := gs_ishl (by decide +kernel : decode mi_27.2.1 58 = .ok (.ishl, 1)) rfl
theorem s_27_59 {K : gC} : gOk K g_Ms mi_27 59 (ga_bin (fun x y => x ||| y) 60) := gs_ior (by decide +kernel : decode mi_27.2.1 59 = .ok (.ior, 1)) rfl
theorem s_27_60 {K : gC} : gOk K g_Ms mi_27 60 (ga_istore 2 61) := gs_istore_n (by decide +kernel : decode mi_27.2.1 60 = .ok (.istore_n 2, 1)) rfl rfl
theorem s_27_61 {K : gC} : gOk K g_Ms mi_27 61 (ga_iinc 3 1 64) := gs_iinc (by decide +kernel : decode mi_27.2.1 61 = .ok (.iinc 3 1, 3)) (by decide) rfl
theorem s_27_64 {K : gC} : gOk K g_Ms mi_27 64 (ga_goto 14) := gs_goto (by decide +kernel : decode mi_27.2.1 64 = .ok (.goto (-50), 3)) (by decide)
theorem s_27_67 {K : gC} : gOk K g_Ms mi_27 67 (ga_push (.int 0) 68) := gs_iconst (by decide +kernel : decode mi_27.2.1 67 = .ok (.iconst 0, 1)) (by decide) rfl
theorem s_27_68 {K : gC} : gOk K g_Ms mi_27 68 (ga_istore 3 69) := gs_istore_n (by decide +kernel : decode mi_27.2.1 68 = .ok (.istore_n 3, 1)) rfl rfl
theorem s_27_69 {K : gC} : gOk K g_Ms mi_27 69 (ga_iload 3 70) := gs_iload_n (by decide +kernel : decode mi_27.2.1 69 = .ok (.iload_n 3, 1)) rfl rfl
theorem s_27_70 {K : gC} : gOk K g_Ms mi_27 70 (ga_aload 1 71) := gs_aload_n (by decide +kernel : decode mi_27.2.1 70 = .ok (.aload_n 1, 1)) rfl rfl
theorem s_27_71 {K : gC} : gOk K g_Ms mi_27 71 (ga_getI 0 4 74) := gs_getI gcls_0 (by decide) (by decide) gw_120 (by decide +kernel : decode mi_27.2.1 71 = .ok (.getfield 30, 3)) rfl
theorem s_27_74 {K : gC} : gOk K g_Ms mi_27 74 (ga_cmp (fun x y => decide (y ≤ x)) 98 77) := gs_cmp_ge (by decide +kernel : decode mi_27.2.1 74 = .ok (.if_icmp .ge 24, 3)) (by decide) rfl
theorem s_27_77 {K : gC} : gOk K g_Ms mi_27 77 (ga_iload 2 78) := gs_iload_n (by decide +kernel : decode mi_27.2.1 77 = .ok (.iload_n 2, 1)) rfl rfl
theorem s_27_78 {K : gC} : gOk K g_Ms mi_27 78 (ga_iload 3 79) := gs_iload_n (by decide +kernel : decode mi_27.2.1 78 = .ok (.iload_n 3, 1)) rfl rfl
theorem s_27_79 {K : gC} : gOk K g_Ms mi_27 79 (ga_bin (fun x y => x >>> (y &&& 31)) 80) := gs_ishr (by decide +kernel : decode mi_27.2.1 79 = .ok (.ishr, 1)) rfl
theorem s_27_80 {K : gC} : gOk K g_Ms mi_27 80 (ga_push (.int 1) 81) := gs_iconst (by decide +kernel : decode mi_27.2.1 80 = .ok (.iconst 1, 1)) (by decide) rfl
theorem s_27_81 {K : gC} : gOk K g_Ms mi_27 81 (ga_bin (fun x y => x &&& y) 82) := gs_iand (by decide +kernel : decode mi_27.2.1 81 = .ok (.iand, 1)) rfl
theorem s_27_82 {K : gC} : gOk K g_Ms mi_27 82 (ga_if (fun x => decide (x = 0)) 92 85) := gs_if_eq (by decide +kernel : decode mi_27.2.1 82 = .ok (.ifCond .eq 10, 3)) (by decide) rfl
theorem s_27_85 {K : gC} : gOk K g_Ms mi_27 85 (ga_aload 0 86) := gs_aload_n (by decide +kernel : decode mi_27.2.1 85 = .ok (.aload_n 0, 1)) rfl rfl
theorem s_27_86 {K : gC} : gOk K g_Ms mi_27 86 (ga_aload 1 87) := gs_aload_n (by decide +kernel : decode mi_27.2.1 86 = .ok (.aload_n 1, 1)) rfl rfl
theorem s_27_87 {K : gC} : gOk K g_Ms mi_27 87 (ga_iload 3 88) := gs_iload_n (by decide +kernel : decode mi_27.2.1 87 = .ok (.iload_n 3, 1)) rfl rfl
theorem s_27_88 {K : gC} : gOk K g_Ms mi_27 88 (ga_callV 2 25 2 91) := gs_callV gcls_2 (gce_X2_soundGong (by decide) (by decide)) gw_468 gw_450 gw_451 (by decide +kernel : decode mi_27.2.1 88 = .ok (.invokevirtual 53, 3)) rfl
theorem s_27_91 {K : gC} : gOk K g_Ms mi_27 91 (ga_pop 92) := gs_pop (by decide +kernel : decode mi_27.2.1 91 = .ok (.pop, 1)) rfl
theorem s_27_92 {K : gC} : gOk K g_Ms mi_27 92 (ga_iinc 3 1 95) := gs_iinc (by decide +kernel : decode mi_27.2.1 92 = .ok (.iinc 3 1, 3)) (by decide) rfl
theorem s_27_95 {K : gC} : gOk K g_Ms mi_27 95 (ga_goto 69) := gs_goto (by decide +kernel : decode mi_27.2.1 95 = .ok (.goto (-26), 3)) (by decide)
theorem s_27_98 {K : gC} : gOk K g_Ms mi_27 98 (ga_iload 2 99) := gs_iload_n (by decide +kernel : decode mi_27.2.1 98 = .ok (.iload_n 2, 1)) rfl rfl
theorem s_27_99 {K : gC} : gOk K g_Ms mi_27 99 (ga_call 133 1 102) := gs_callS (gce_J6_bitCount_0f7a4 (by decide) (by decide)) gw_469 gw_470 (by decide +kernel : decode mi_27.2.1 99 = .ok (.invokestatic 57, 3)) rfl
theorem s_27_102 {K : gC} : gOk K g_Ms mi_27 102 (ga_iret) := gs_iret (by decide +kernel : decode mi_27.2.1 102 = .ok (.ireturn, 1)) rfl
theorem ok_27 {K : gC} : ∀ e ∈ t_27, gOk K g_Ms mi_27 e.1 e.2 := by
  unfold t_27
  simp only [List.forall_mem_cons, List.not_mem_nil, false_implies, implies_true, and_true]
  exact ⟨s_27_0, s_27_1, s_27_2, s_27_5, s_27_6, s_27_7, s_27_10, s_27_11, s_27_12, s_27_13, s_27_14, s_27_15, s_27_16, s_27_19, s_27_22, s_27_23, s_27_26, s_27_27, s_27_28, s_27_29, s_27_30, s_27_31, s_27_32, s_27_33, s_27_36, s_27_37, s_27_38, s_27_39, s_27_40, s_27_41, s_27_42, s_27_45, s_27_46, s_27_49, s_27_50, s_27_51, s_27_52, s_27_53, s_27_54, s_27_55, s_27_56, s_27_57, s_27_58, s_27_59, s_27_60, s_27_61, s_27_64, s_27_67, s_27_68, s_27_69, s_27_70, s_27_71, s_27_74, s_27_77, s_27_78, s_27_79, s_27_80, s_27_81, s_27_82, s_27_85, s_27_86, s_27_87, s_27_88, s_27_91, s_27_92, s_27_95, s_27_98, s_27_99, s_27_102⟩
theorem s_28_0 {K : gC} : gOk K g_Ms mi_28 0 (ga_push (.int 1) 1) := gs_iconst (by decide +kernel : decode mi_28.2.1 0 = .ok (.iconst 1, 1)) (by decide) rfl
theorem s_28_1 {K : gC} : gOk K g_Ms mi_28 1 (ga_istore 2 2) := gs_istore_n (by decide +kernel : decode mi_28.2.1 1 = .ok (.istore_n 2, 1)) rfl rfl
theorem s_28_2 {K : gC} : gOk K g_Ms mi_28 2 (ga_iload 2 3) := gs_iload_n (by decide +kernel : decode mi_28.2.1 2 = .ok (.iload_n 2, 1)) rfl rfl
theorem s_28_3 {K : gC} : gOk K g_Ms mi_28 3 (ga_push (.int 41) 5) := gs_bipush (by decide +kernel : decode mi_28.2.1 3 = .ok (.bipush 41, 2)) (by decide) rfl
theorem s_28_5 {K : gC} : gOk K g_Ms mi_28 5 (ga_cmp (fun x y => decide (y < x)) 31 8) := gs_cmp_gt (by decide +kernel : decode mi_28.2.1 5 = .ok (.if_icmp .gt 26, 3)) (by decide) rfl
theorem s_28_8 {K : gC} : gOk K g_Ms mi_28 8 (ga_aload 0 9) := gs_aload_n (by decide +kernel : decode mi_28.2.1 8 = .ok (.aload_n 0, 1)) rfl rfl
theorem s_28_9 {K : gC} : gOk K g_Ms mi_28 9 (ga_getR 2 0 12) := gs_getR gcls_2 (by decide) (by decide) gw_146 (by decide +kernel : decode mi_28.2.1 9 = .ok (.getfield 9, 3)) rfl
theorem s_28_12 {K : gC} : gOk K g_Ms mi_28 12 (ga_iload 1 13) := gs_iload_n (by decide +kernel : decode mi_28.2.1 12 = .ok (.iload_n 1, 1)) rfl rfl
theorem s_28_13 {K : gC} : gOk K g_Ms mi_28 13 (ga_lald 14) := gs_lald (by decide +kernel : decode mi_28.2.1 13 = .ok (.laload, 1)) rfl
theorem s_28_14 {K : gC} : gOk K g_Ms mi_28 14 (ga_iload 2 15) := gs_iload_n (by decide +kernel : decode mi_28.2.1 14 = .ok (.iload_n 2, 1)) rfl rfl
theorem s_28_15 {K : gC} : gOk K g_Ms mi_28 15 (ga_lsh (fun x y => x >>> (y.toInt64 &&& 63)) 16) := gs_lshr (by decide +kernel : decode mi_28.2.1 15 = .ok (.lshr, 1)) rfl
theorem s_28_16 {K : gC} : gOk K g_Ms mi_28 16 (ga_push (.long 1) 17) := gs_lconst (by decide +kernel : decode mi_28.2.1 16 = .ok (.lconst 1, 1)) (by decide) rfl
theorem s_28_17 {K : gC} : gOk K g_Ms mi_28 17 (ga_lbin (fun x y => x &&& y) 18) := gs_land (by decide +kernel : decode mi_28.2.1 17 = .ok (.land, 1)) rfl
theorem s_28_18 {K : gC} : gOk K g_Ms mi_28 18 (ga_push (.long 0) 19) := gs_lconst (by decide +kernel : decode mi_28.2.1 18 = .ok (.lconst 0, 1)) (by decide) rfl
theorem s_28_19 {K : gC} : gOk K g_Ms mi_28 19 (ga_lcmp 20) := gs_lcmp (by decide +kernel : decode mi_28.2.1 19 = .ok (.lcmp, 1)) rfl
theorem s_28_20 {K : gC} : gOk K g_Ms mi_28 20 (ga_if (fun x => decide (x = 0)) 25 23) := gs_if_eq (by decide +kernel : decode mi_28.2.1 20 = .ok (.ifCond .eq 5, 3)) (by decide) rfl
theorem s_28_23 {K : gC} : gOk K g_Ms mi_28 23 (ga_iload 2 24) := gs_iload_n (by decide +kernel : decode mi_28.2.1 23 = .ok (.iload_n 2, 1)) rfl rfl
theorem s_28_24 {K : gC} : gOk K g_Ms mi_28 24 (ga_iret) := gs_iret (by decide +kernel : decode mi_28.2.1 24 = .ok (.ireturn, 1)) rfl
theorem s_28_25 {K : gC} : gOk K g_Ms mi_28 25 (ga_iinc 2 1 28) := gs_iinc (by decide +kernel : decode mi_28.2.1 25 = .ok (.iinc 2 1, 3)) (by decide) rfl
theorem s_28_28 {K : gC} : gOk K g_Ms mi_28 28 (ga_goto 2) := gs_goto (by decide +kernel : decode mi_28.2.1 28 = .ok (.goto (-26), 3)) (by decide)
theorem s_28_31 {K : gC} : gOk K g_Ms mi_28 31 (ga_push (.int (-1)) 32) := gs_iconst (by decide +kernel : decode mi_28.2.1 31 = .ok (.iconst (-1), 1)) (by decide) rfl
theorem s_28_32 {K : gC} : gOk K g_Ms mi_28 32 (ga_iret) := gs_iret (by decide +kernel : decode mi_28.2.1 32 = .ok (.ireturn, 1)) rfl
theorem ok_28 {K : gC} : ∀ e ∈ t_28, gOk K g_Ms mi_28 e.1 e.2 := by
  unfold t_28
  simp only [List.forall_mem_cons, List.not_mem_nil, false_implies, implies_true, and_true]
  exact ⟨s_28_0, s_28_1, s_28_2, s_28_3, s_28_5, s_28_8, s_28_9, s_28_12, s_28_13, s_28_14, s_28_15, s_28_16, s_28_17, s_28_18, s_28_19, s_28_20, s_28_23, s_28_24, s_28_25, s_28_28, s_28_31, s_28_32⟩
theorem s_29_0 {K : gC} : gOk K g_Ms mi_29 0 (ga_push (.int 0) 1) := gs_iconst (by decide +kernel : decode mi_29.2.1 0 = .ok (.iconst 0, 1)) (by decide) rfl
theorem s_29_1 {K : gC} : gOk K g_Ms mi_29 1 (ga_istore 1 2) := gs_istore_n (by decide +kernel : decode mi_29.2.1 1 = .ok (.istore_n 1, 1)) rfl rfl
theorem s_29_2 {K : gC} : gOk K g_Ms mi_29 2 (ga_push (.int 0) 3) := gs_iconst (by decide +kernel : decode mi_29.2.1 2 = .ok (.iconst 0, 1)) (by decide) rfl
theorem s_29_3 {K : gC} : gOk K g_Ms mi_29 3 (ga_istore 2 4) := gs_istore_n (by decide +kernel : decode mi_29.2.1 3 = .ok (.istore_n 2, 1)) rfl rfl
theorem s_29_4 {K : gC} : gOk K g_Ms mi_29 4 (ga_iload 2 5) := gs_iload_n (by decide +kernel : decode mi_29.2.1 4 = .ok (.iload_n 2, 1)) rfl rfl
theorem s_29_5 {K : gC} : gOk K g_Ms mi_29 5 (ga_push (.int 10) 7) := gs_bipush (by decide +kernel : decode mi_29.2.1 5 = .ok (.bipush 10, 2)) (by decide) rfl
theorem s_29_7 {K : gC} : gOk K g_Ms mi_29 7 (ga_cmp (fun x y => decide (y ≤ x)) 33 10) := gs_cmp_ge (by decide +kernel : decode mi_29.2.1 7 = .ok (.if_icmp .ge 26, 3)) (by decide) rfl
theorem s_29_10 {K : gC} : gOk K g_Ms mi_29 10 (ga_aload 0 11) := gs_aload_n (by decide +kernel : decode mi_29.2.1 10 = .ok (.aload_n 0, 1)) rfl rfl
theorem s_29_11 {K : gC} : gOk K g_Ms mi_29 11 (ga_getR 2 0 14) := gs_getR gcls_2 (by decide) (by decide) gw_146 (by decide +kernel : decode mi_29.2.1 11 = .ok (.getfield 9, 3)) rfl
theorem s_29_14 {K : gC} : gOk K g_Ms mi_29 14 (ga_iload 2 15) := gs_iload_n (by decide +kernel : decode mi_29.2.1 14 = .ok (.iload_n 2, 1)) rfl rfl
theorem s_29_15 {K : gC} : gOk K g_Ms mi_29 15 (ga_lald 16) := gs_lald (by decide +kernel : decode mi_29.2.1 15 = .ok (.laload, 1)) rfl
theorem s_29_16 {K : gC} : gOk K g_Ms mi_29 16 (ga_push (.long 0) 17) := gs_lconst (by decide +kernel : decode mi_29.2.1 16 = .ok (.lconst 0, 1)) (by decide) rfl
theorem s_29_17 {K : gC} : gOk K g_Ms mi_29 17 (ga_lcmp 18) := gs_lcmp (by decide +kernel : decode mi_29.2.1 17 = .ok (.lcmp, 1)) rfl
theorem s_29_18 {K : gC} : gOk K g_Ms mi_29 18 (ga_if (fun x => decide (x = 0)) 27 21) := gs_if_eq (by decide +kernel : decode mi_29.2.1 18 = .ok (.ifCond .eq 9, 3)) (by decide) rfl
theorem s_29_21 {K : gC} : gOk K g_Ms mi_29 21 (ga_iload 1 22) := gs_iload_n (by decide +kernel : decode mi_29.2.1 21 = .ok (.iload_n 1, 1)) rfl rfl
theorem s_29_22 {K : gC} : gOk K g_Ms mi_29 22 (ga_push (.int 1) 23) := gs_iconst (by decide +kernel : decode mi_29.2.1 22 = .ok (.iconst 1, 1)) (by decide) rfl
theorem s_29_23 {K : gC} : gOk K g_Ms mi_29 23 (ga_iload 2 24) := gs_iload_n (by decide +kernel : decode mi_29.2.1 23 = .ok (.iload_n 2, 1)) rfl rfl
theorem s_29_24 {K : gC} : gOk K g_Ms mi_29 24 (ga_bin (fun x y => x <<< (y &&& 31)) 25) := gs_ishl (by decide +kernel : decode mi_29.2.1 24 = .ok (.ishl, 1)) rfl
theorem s_29_25 {K : gC} : gOk K g_Ms mi_29 25 (ga_bin (fun x y => x ||| y) 26) := gs_ior (by decide +kernel : decode mi_29.2.1 25 = .ok (.ior, 1)) rfl
theorem s_29_26 {K : gC} : gOk K g_Ms mi_29 26 (ga_istore 1 27) := gs_istore_n (by decide +kernel : decode mi_29.2.1 26 = .ok (.istore_n 1, 1)) rfl rfl
theorem s_29_27 {K : gC} : gOk K g_Ms mi_29 27 (ga_iinc 2 1 30) := gs_iinc (by decide +kernel : decode mi_29.2.1 27 = .ok (.iinc 2 1, 3)) (by decide) rfl
theorem s_29_30 {K : gC} : gOk K g_Ms mi_29 30 (ga_goto 4) := gs_goto (by decide +kernel : decode mi_29.2.1 30 = .ok (.goto (-26), 3)) (by decide)
theorem s_29_33 {K : gC} : gOk K g_Ms mi_29 33 (ga_iload 1 34) := gs_iload_n (by decide +kernel : decode mi_29.2.1 33 = .ok (.iload_n 1, 1)) rfl rfl
theorem s_29_34 {K : gC} : gOk K g_Ms mi_29 34 (ga_iret) := gs_iret (by decide +kernel : decode mi_29.2.1 34 = .ok (.ireturn, 1)) rfl
theorem ok_29 {K : gC} : ∀ e ∈ t_29, gOk K g_Ms mi_29 e.1 e.2 := by
  unfold t_29
  simp only [List.forall_mem_cons, List.not_mem_nil, false_implies, implies_true, and_true]
  exact ⟨s_29_0, s_29_1, s_29_2, s_29_3, s_29_4, s_29_5, s_29_7, s_29_10, s_29_11, s_29_14, s_29_15, s_29_16, s_29_17, s_29_18, s_29_21, s_29_22, s_29_23, s_29_24, s_29_25, s_29_26, s_29_27, s_29_30, s_29_33, s_29_34⟩
theorem s_30_0 {K : gC} : gOk K g_Ms mi_30 0 (ga_push (.int 0) 1) := gs_iconst (by decide +kernel : decode mi_30.2.1 0 = .ok (.iconst 0, 1)) (by decide) rfl
theorem s_30_1 {K : gC} : gOk K g_Ms mi_30 1 (ga_istore 1 2) := gs_istore_n (by decide +kernel : decode mi_30.2.1 1 = .ok (.istore_n 1, 1)) rfl rfl
theorem s_30_2 {K : gC} : gOk K g_Ms mi_30 2 (ga_push (.int 0) 3) := gs_iconst (by decide +kernel : decode mi_30.2.1 2 = .ok (.iconst 0, 1)) (by decide) rfl
theorem s_30_3 {K : gC} : gOk K g_Ms mi_30 3 (ga_istore 2 4) := gs_istore_n (by decide +kernel : decode mi_30.2.1 3 = .ok (.istore_n 2, 1)) rfl rfl
theorem s_30_4 {K : gC} : gOk K g_Ms mi_30 4 (ga_iload 2 5) := gs_iload_n (by decide +kernel : decode mi_30.2.1 4 = .ok (.iload_n 2, 1)) rfl rfl
theorem s_30_5 {K : gC} : gOk K g_Ms mi_30 5 (ga_push (.int 10) 7) := gs_bipush (by decide +kernel : decode mi_30.2.1 5 = .ok (.bipush 10, 2)) (by decide) rfl
theorem s_30_7 {K : gC} : gOk K g_Ms mi_30 7 (ga_cmp (fun x y => decide (y ≤ x)) 25 10) := gs_cmp_ge (by decide +kernel : decode mi_30.2.1 7 = .ok (.if_icmp .ge 18, 3)) (by decide) rfl
theorem s_30_10 {K : gC} : gOk K g_Ms mi_30 10 (ga_iload 1 11) := gs_iload_n (by decide +kernel : decode mi_30.2.1 10 = .ok (.iload_n 1, 1)) rfl rfl
theorem s_30_11 {K : gC} : gOk K g_Ms mi_30 11 (ga_aload 0 12) := gs_aload_n (by decide +kernel : decode mi_30.2.1 11 = .ok (.aload_n 0, 1)) rfl rfl
theorem s_30_12 {K : gC} : gOk K g_Ms mi_30 12 (ga_getR 2 1 15) := gs_getR gcls_2 (by decide) (by decide) gw_147 (by decide +kernel : decode mi_30.2.1 12 = .ok (.getfield 15, 3)) rfl
theorem s_30_15 {K : gC} : gOk K g_Ms mi_30 15 (ga_iload 2 16) := gs_iload_n (by decide +kernel : decode mi_30.2.1 15 = .ok (.iload_n 2, 1)) rfl rfl
theorem s_30_16 {K : gC} : gOk K g_Ms mi_30 16 (ga_iald 17) := gs_iald (by decide +kernel : decode mi_30.2.1 16 = .ok (.iaload, 1)) rfl
theorem s_30_17 {K : gC} : gOk K g_Ms mi_30 17 (ga_bin (fun x y => x + y) 18) := gs_iadd (by decide +kernel : decode mi_30.2.1 17 = .ok (.iadd, 1)) rfl
theorem s_30_18 {K : gC} : gOk K g_Ms mi_30 18 (ga_istore 1 19) := gs_istore_n (by decide +kernel : decode mi_30.2.1 18 = .ok (.istore_n 1, 1)) rfl rfl
theorem s_30_19 {K : gC} : gOk K g_Ms mi_30 19 (ga_iinc 2 1 22) := gs_iinc (by decide +kernel : decode mi_30.2.1 19 = .ok (.iinc 2 1, 3)) (by decide) rfl
theorem s_30_22 {K : gC} : gOk K g_Ms mi_30 22 (ga_goto 4) := gs_goto (by decide +kernel : decode mi_30.2.1 22 = .ok (.goto (-18), 3)) (by decide)
theorem s_30_25 {K : gC} : gOk K g_Ms mi_30 25 (ga_iload 1 26) := gs_iload_n (by decide +kernel : decode mi_30.2.1 25 = .ok (.iload_n 1, 1)) rfl rfl
theorem s_30_26 {K : gC} : gOk K g_Ms mi_30 26 (ga_iret) := gs_iret (by decide +kernel : decode mi_30.2.1 26 = .ok (.ireturn, 1)) rfl
theorem ok_30 {K : gC} : ∀ e ∈ t_30, gOk K g_Ms mi_30 e.1 e.2 := by
  unfold t_30
  simp only [List.forall_mem_cons, List.not_mem_nil, false_implies, implies_true, and_true]
  exact ⟨s_30_0, s_30_1, s_30_2, s_30_3, s_30_4, s_30_5, s_30_7, s_30_10, s_30_11, s_30_12, s_30_15, s_30_16, s_30_17, s_30_18, s_30_19, s_30_22, s_30_25, s_30_26⟩
theorem s_31_0 {K : gC} : gOk K g_Ms mi_31 0 (ga_aload 0 1) := gs_aload_n (by decide +kernel : decode mi_31.2.1 0 = .ok (.aload_n 0, 1)) rfl rfl
theorem s_31_1 {K : gC} : gOk K g_Ms mi_31 1 (ga_oinit 4) := gs_oinit gw_174 gw_59 gw_objc (by decide) (by decide) (by decide +kernel : decode mi_31.2.1 1 = .ok (.invokespecial 3, 3)) rfl
theorem s_31_4 {K : gC} : gOk K g_Ms mi_31 4 (ga_aload 0 5) := gs_aload_n (by decide +kernel : decode mi_31.2.1 4 = .ok (.aload_n 0, 1)) rfl rfl
theorem s_31_5 {K : gC} : gOk K g_Ms mi_31 5 (ga_push (.int 8) 7) := gs_bipush (by decide +kernel : decode mi_31.2.1 5 = .ok (.bipush 8, 2)) (by decide) rfl
theorem s_31_7 {K : gC} : gOk K g_Ms mi_31 7 (ga_newa 8 9) := gs_newaI gw_88 (by decide +kernel : decode mi_31.2.1 7 = .ok (.newarray .int, 2)) rfl
theorem s_31_9 {K : gC} : gOk K g_Ms mi_31 9 (ga_putR 3 0 12) := gs_putR gcls_3 (by decide) (by decide) (fun _ => ⟨rfl, rfl⟩) rfl rfl rfl gw_175 (by decide +kernel : decode mi_31.2.1 9 = .ok (.putfield 9, 3)) rfl
theorem s_31_12 {K : gC} : gOk K g_Ms mi_31 12 (ga_aload 0 13) := gs_aload_n (by decide +kernel : decode mi_31.2.1 12 = .ok (.aload_n 0, 1)) rfl rfl
theorem s_31_13 {K : gC} : gOk K g_Ms mi_31 13 (ga_push (.int 8) 15) := gs_bipush (by decide +kernel : decode mi_31.2.1 13 = .ok (.bipush 8, 2)) (by decide) rfl
theorem s_31_15 {K : gC} : gOk K g_Ms mi_31 15 (ga_newa 9 17) := gs_newaZ gw_167 (by decide +kernel : decode mi_31.2.1 15 = .ok (.newarray .boolean, 2)) rfl
theorem s_31_17 {K : gC} : gOk K g_Ms mi_31 17 (ga_putR 3 1 20) := gs_putR gcls_3 (by decide) (by decide) (fun _ => ⟨rfl, rfl⟩) rfl rfl rfl gw_176 (by decide +kernel : decode mi_31.2.1 17 = .ok (.putfield 15, 3)) rfl
theorem s_31_20 {K : gC} : gOk K g_Ms mi_31 20 (ga_vret) := gs_vret (by decide +kernel : decode mi_31.2.1 20 = .ok (.return_, 1)) rfl
theorem ok_31 {K : gC} : ∀ e ∈ t_31, gOk K g_Ms mi_31 e.1 e.2 := by
  unfold t_31
  simp only [List.forall_mem_cons, List.not_mem_nil, false_implies, implies_true, and_true]
  exact ⟨s_31_0, s_31_1, s_31_4, s_31_5, s_31_7, s_31_9, s_31_12, s_31_13, s_31_15, s_31_17, s_31_20⟩
theorem s_32_0 {K : gC} : gOk K g_Ms mi_32 0 (ga_aload 0 1) := gs_aload_n (by decide +kernel : decode mi_32.2.1 0 = .ok (.aload_n 0, 1)) rfl rfl
theorem s_32_1 {K : gC} : gOk K g_Ms mi_32 1 (ga_getI 3 2 4) := gs_getI gcls_3 (by decide) (by decide) gw_177 (by decide +kernel : decode mi_32.2.1 1 = .ok (.getfield 19, 3)) rfl
theorem s_32_4 {K : gC} : gOk K g_Ms mi_32 4 (ga_push (.int 8) 6) := gs_bipush (by decide +kernel : decode mi_32.2.1 4 = .ok (.bipush 8, 2)) (by decide) rfl
theorem s_32_6 {K : gC} : gOk K g_Ms mi_32 6 (ga_cmp (fun x y => decide (x < y)) 11 9) := gs_cmp_lt (by decide +kernel : decode mi_32.2.1 6 = .ok (.if_icmp .lt 5, 3)) (by decide) rfl
theorem s_32_9 {K : gC} : gOk K g_Ms mi_32 9 (ga_push (.int 0) 10) := gs_iconst (by decide +kernel : decode mi_32.2.1 9 = .ok (.iconst 0, 1)) (by decide) rfl
theorem s_32_10 {K : gC} : gOk K g_Ms mi_32 10 (ga_zret) := gs_zret (by decide +kernel : decode mi_32.2.1 10 = .ok (.ireturn, 1)) rfl rfl rfl
theorem s_32_11 {K : gC} : gOk K g_Ms mi_32 11 (ga_aload 0 12) := gs_aload_n (by decide +kernel : decode mi_32.2.1 11 = .ok (.aload_n 0, 1)) rfl rfl
theorem s_32_12 {K : gC} : gOk K g_Ms mi_32 12 (ga_getR 3 0 15) := gs_getR gcls_3 (by decide) (by decide) gw_175 (by decide +kernel : decode mi_32.2.1 12 = .ok (.getfield 9, 3)) rfl
theorem s_32_15 {K : gC} : gOk K g_Ms mi_32 15 (ga_aload 0 16) := gs_aload_n (by decide +kernel : decode mi_32.2.1 15 = .ok (.aload_n 0, 1)) rfl rfl
theorem s_32_16 {K : gC} : gOk K g_Ms mi_32 16 (ga_getI 3 2 19) := gs_getI gcls_3 (by decide) (by decide) gw_177 (by decide +kernel : decode mi_32.2.1 16 = .ok (.getfield 19, 3)) rfl
theorem s_32_19 {K : gC} : gOk K g_Ms mi_32 19 (ga_iload 1 20) := gs_iload_n (by decide +kernel : decode mi_32.2.1 19 = .ok (.iload_n 1, 1)) rfl rfl
theorem s_32_20 {K : gC} : gOk K g_Ms mi_32 20 (ga_iast 21) := gs_iast (by decide +kernel : decode mi_32.2.1 20 = .ok (.iastore, 1)) rfl
theorem s_32_21 {K : gC} : gOk K g_Ms mi_32 21 (ga_aload 0 22) := gs_aload_n (by decide +kernel : decode mi_32.2.1 21 = .ok (.aload_n 0, 1)) rfl rfl
theorem s_32_22 {K : gC} : gOk K g_Ms mi_32 22 (ga_getR 3 1 25) := gs_getR gcls_3 (by decide) (by decide) gw_176 (by decide +kernel : decode mi_32.2.1 22 = .ok (.getfield 15, 3)) rfl
theorem s_32_25 {K : gC} : gOk K g_Ms mi_32 25 (ga_aload 0 26) := gs_aload_n (by decide +kernel : decode mi_32.2.1 25 = .ok (.aload_n 0, 1)) rfl rfl
theorem s_32_26 {K : gC} : gOk K g_Ms mi_32 26 (ga_getI 3 2 29) := gs_getI gcls_3 (by decide) (by decide) gw_177 (by decide +kernel : decode mi_32.2.1 26 = .ok (.getfield 19, 3)) rfl
theorem s_32_29 {K : gC} : gOk K g_Ms mi_32 29 (ga_iload 2 30) := gs_iload_n (by decide +kernel : decode mi_32.2.1 29 = .ok (.iload_n 2, 1)) rfl rfl
theorem s_32_30 {K : gC} : gOk K g_Ms mi_32 30 (ga_bast 31) := gs_zast (by decide +kernel : decode mi_32.2.1 30 = .ok (.bastore, 1)) rfl
theorem s_32_31 {K : gC} : gOk K g_Ms mi_32 31 (ga_aload 0 32) := gs_aload_n (by decide +kernel : decode mi_32.2.1 31 = .ok (.aload_n 0, 1)) rfl rfl
theorem s_32_32 {K : gC} : gOk K g_Ms mi_32 32 (ga_dup 33) := gs_dup (by decide +kernel : decode mi_32.2.1 32 = .ok (.dup, 1)) rfl
theorem s_32_33 {K : gC} : gOk K g_Ms mi_32 33 (ga_getI 3 2 36) := gs_getI gcls_3 (by decide) (by decide) gw_177 (by decide +kernel : decode mi_32.2.1 33 = .ok (.getfield 19, 3)) rfl
theorem s_32_36 {K : gC} : gOk K g_Ms mi_32 36 (ga_push (.int 1) 37) := gs_iconst (by decide +kernel : decode mi_32.2.1 36 = .ok (.iconst 1, 1)) (by decide) rfl
theorem s_32_37 {K : gC} : gOk K g_Ms mi_32 37 (ga_bin (fun x y => x + y) 38) := gs_iadd (by decide +kernel : decode mi_32.2.1 37 = .ok (.iadd, 1)) rfl
theorem s_32_38 {K : gC} : gOk K g_Ms mi_32 38 (ga_putI 3 2 41) := gs_putI gcls_3 (by decide) (by decide) rfl rfl gw_177 (by decide +kernel : decode mi_32.2.1 38 = .ok (.putfield 19, 3)) rfl
theorem s_32_41 {K : gC} : gOk K g_Ms mi_32 41 (ga_push (.int 1) 42) := gs_iconst (by decide +kernel : decode mi_32.2.1 41 = .ok (.iconst 1, 1)) (by decide) rfl
theorem s_32_42 {K : gC} : gOk K g_Ms mi_32 42 (ga_zret) := gs_zret (by decide +kernel : decode mi_32.2.1 42 = .ok (.ireturn, 1)) rfl rfl rfl
theorem ok_32 {K : gC} : ∀ e ∈ t_32, gOk K g_Ms mi_32 e.1 e.2 := by
  unfold t_32
  simp only [List.forall_mem_cons, List.not_mem_nil, false_implies, implies_true, and_true]
  exact ⟨s_32_0, s_32_1, s_32_4, s_32_6, s_32_9, s_32_10, s_32_11, s_32_12, s_32_15, s_32_16, s_32_19, s_32_20, s_32_21, s_32_22, s_32_25, s_32_26, s_32_29, s_32_30, s_32_31, s_32_32, s_32_33, s_32_36, s_32_37, s_32_38, s_32_41, s_32_42⟩
theorem s_33_0 {K : gC} : gOk K g_Ms mi_33 0 (ga_push (.int 0) 1) := gs_iconst (by decide +kernel : decode mi_33.2.1 0 = .ok (.iconst 0, 1)) (by decide) rfl
theorem s_33_1 {K : gC} : gOk K g_Ms mi_33 1 (ga_istore 2 2) := gs_istore_n (by decide +kernel : decode mi_33.2.1 1 = .ok (.istore_n 2, 1)) rfl rfl
theorem s_33_2 {K : gC} : gOk K g_Ms mi_33 2 (ga_iload 2 3) := gs_iload_n (by decide +kernel : decode mi_33.2.1 2 = .ok (.iload_n 2, 1)) rfl rfl
theorem s_33_3 {K : gC} : gOk K g_Ms mi_33 3 (ga_aload 0 4) := gs_aload_n (by decide +kernel : decode mi_33.2.1 3 = .ok (.aload_n 0, 1)) rfl rfl
theorem s_33_4 {K : gC} : gOk K g_Ms mi_33 4 (ga_getI 3 2 7) := gs_getI gcls_3 (by decide) (by decide) gw_177 (by decide +kernel : decode mi_33.2.1 4 = .ok (.getfield 19, 3)) rfl
theorem s_33_7 {K : gC} : gOk K g_Ms mi_33 7 (ga_cmp (fun x y => decide (y ≤ x)) 45 10) := gs_cmp_ge (by decide +kernel : decode mi_33.2.1 7 = .ok (.if_icmp .ge 38, 3)) (by decide) rfl
theorem s_33_10 {K : gC} : gOk K g_Ms mi_33 10 (ga_aload 0 11) := gs_aload_n (by decide +kernel : decode mi_33.2.1 10 = .ok (.aload_n 0, 1)) rfl rfl
theorem s_33_11 {K : gC} : gOk K g_Ms mi_33 11 (ga_getR 3 1 14) := gs_getR gcls_3 (by decide) (by decide) gw_176 (by decide +kernel : decode mi_33.2.1 11 = .ok (.getfield 15, 3)) rfl
theorem s_33_14 {K : gC} : gOk K g_Ms mi_33 14 (ga_iload 2 15) := gs_iload_n (by decide +kernel : decode mi_33.2.1 14 = .ok (.iload_n 2, 1)) rfl rfl
theorem s_33_15 {K : gC} : gOk K g_Ms mi_33 15 (ga_bald 16) := gs_zald (by decide +kernel : decode mi_33.2.1 15 = .ok (.baload, 1)) rfl
theorem s_33_16 {K : gC} : gOk K g_Ms mi_33 16 (ga_iload 1 17) := gs_iload_n (by decide +kernel : decode mi_33.2.1 16 = .ok (.iload_n 1, 1)) rfl rfl
theorem s_33_17 {K : gC} : gOk K g_Ms mi_33 17 (ga_aload 0 18) := gs_aload_n (by decide +kernel : decode mi_33.2.1 17 = .ok (.aload_n 0, 1)) rfl rfl
theorem s_33_18 {K : gC} : gOk K g_Ms mi_33 18 (ga_getR 3 0 21) := gs_getR gcls_3 (by decide) (by decide) gw_175 (by decide +kernel : decode mi_33.2.1 18 = .ok (.getfield 9, 3)) rfl
theorem s_33_21 {K : gC} : gOk K g_Ms mi_33 21 (ga_iload 2 22) := gs_iload_n (by decide +kernel : decode mi_33.2.1 21 = .ok (.iload_n 2, 1)) rfl rfl
theorem s_33_22 {K : gC} : gOk K g_Ms mi_33 22 (ga_iald 23) := gs_iald (by decide +kernel : decode mi_33.2.1 22 = .ok (.iaload, 1)) rfl
theorem s_33_23 {K : gC} : gOk K g_Ms mi_33 23 (ga_bin (fun x y => x >>> (y &&& 31)) 24) := gs_ishr (by decide +kernel : decode mi_33.2.1 23 = .ok (.ishr, 1)) rfl
theorem s_33_24 {K : gC} : gOk K g_Ms mi_33 24 (ga_push (.int 1) 25) := gs_iconst (by decide +kernel : decode mi_33.2.1 24 = .ok (.iconst 1, 1)) (by decide) rfl
theorem s_33_25 {K : gC} : gOk K g_Ms mi_33 25 (ga_bin (fun x y => x &&& y) 26) := gs_iand (by decide +kernel : decode mi_33.2.1 25 = .ok (.iand, 1)) rfl
theorem s_33_26 {K : gC} : gOk K g_Ms mi_33 26 (ga_if (fun x => decide (x = 0)) 33 29) := gs_if_eq (by decide +kernel : decode mi_33.2.1 26 = .ok (.ifCond .eq 7, 3)) (by decide) rfl
theorem s_33_29 {K : gC} : gOk K g_Ms mi_33 29 (ga_push (.int 1) 30) := gs_iconst (by decide +kernel : decode mi_33.2.1 29 = .ok (.iconst 1, 1)) (by decide) rfl
theorem s_33_30 {K : gC} : gOk K g_Ms mi_33 30 (ga_goto 34) := gs_goto (by decide +kernel : decode mi_33.2.1 30 = .ok (.goto 4, 3)) (by decide)
theorem s_33_33 {K : gC} : gOk K g_Ms mi_33 33 (ga_push (.int 0) 34) := gs_iconst (by decide +kernel : decode mi_33.2.1 33 = .ok (.iconst 0, 1)) (by decide) rfl
theorem s_33_34 {K : gC} : gOk K g_Ms mi_33 34 (ga_cmp (fun x y => decide (x = y)) 39 37) := gs_cmp_eq (by decide +kernel : decode mi_33.2.1 34 = .ok (.if_icmp .eq 5, 3)) (by decide) rfl
theorem s_33_37 {K : gC} : gOk K g_Ms mi_33 37 (ga_push (.int 0) 38) := gs_iconst (by decide +kernel : decode mi_33.2.1 37 = .ok (.iconst 0, 1)) (by decide) rfl
theorem s_33_38 {K : gC} : gOk K g_Ms mi_33 38 (ga_zret) := gs_zret (by decide +kernel : decode mi_33.2.1 38 = .ok (.ireturn, 1)) rfl rfl rfl
theorem s_33_39 {K : gC} : gOk K g_Ms mi_33 39 (ga_iinc 2 1 42) := gs_iinc (by decide +kernel : decode mi_33.2.1 39 = .ok (.iinc 2 1, 3)) (by decide) rfl
theorem s_33_42 {K : gC} : gOk K g_Ms mi_33 42 (ga_goto 2) := gs_goto (by decide +kernel : decode mi_33.2.1 42 = .ok (.goto (-40), 3)) (by decide)
theorem s_33_45 {K : gC} : gOk K g_Ms mi_33 45 (ga_push (.int 1) 46) := gs_iconst (by decide +kernel : decode mi_33.2.1 45 = .ok (.iconst 1, 1)) (by decide) rfl
theorem s_33_46 {K : gC} : gOk K g_Ms mi_33 46 (ga_zret) := gs_zret (by decide +kernel : decode mi_33.2.1 46 = .ok (.ireturn, 1)) rfl rfl rfl
theorem ok_33 {K : gC} : ∀ e ∈ t_33, gOk K g_Ms mi_33 e.1 e.2 := by
  unfold t_33
  simp only [List.forall_mem_cons, List.not_mem_nil, false_implies, implies_true, and_true]
  exact ⟨s_33_0, s_33_1, s_33_2, s_33_3, s_33_4, s_33_7, s_33_10, s_33_11, s_33_14, s_33_15, s_33_16, s_33_17, s_33_18, s_33_21, s_33_22, s_33_23, s_33_24, s_33_25, s_33_26, s_33_29, s_33_30, s_33_33, s_33_34, s_33_37, s_33_38, s_33_39, s_33_42, s_33_45, s_33_46⟩
