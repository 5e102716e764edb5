theorem s_133_0 {K : gC} : gOk K g_Ms mi_133 0 (ga_iload 0 1) := gs_iload_n (by decide +kernel : decode mi_133.2.1 0 = .ok (.iload_n 0, 1)) rfl rfl
theorem s_133_1 {K : gC} : gOk K g_Ms mi_133 1 (ga_iload 0 2) := gs_iload_n (by decide +kernel : decode mi_133.2.1 1 = .ok (.iload_n 0, 1)) rfl rfl
theorem s_133_2 {K : gC} : gOk K g_Ms mi_133 2 (ga_push (.int 1) 3) := gs_iconst (by decide +kernel : decode mi_133.2.1 2 = .ok (.iconst 1, 1)) (by decide) rfl
theorem s_133_3 {K : gC} : gOk K g_Ms mi_133 3 (ga_bin (fun x y => (x.toUInt32 >>> (y.toUInt32 &&& Int32.toUInt32 31)).toInt32) 4) := gs_iushr (by decide +kernel : decode mi_133.2.1 3 = .ok (.iushr, 1)) rfl
theorem s_133_4 {K : gC} : gOk K g_Ms mi_133 4 (ga_push (.int 1431655765) 7) := gs_ldc_w (by decide +kernel : decode mi_133.2.1 4 = .ok (.ldc_w 265, 3)) gw_472 rfl
theorem s_133_7 {K : gC} : gOk K g_Ms mi_133 7 (ga_bin (fun x y => x &&& y) 8) := gs_iand (by decide +kernel : decode mi_133.2.1 7 = .ok (.iand, 1)) rfl
theorem s_133_8 {K : gC} : gOk K g_Ms mi_133 8 (ga_bin (fun x y => x - y) 9) := gs_isub (by decide +kernel : decode mi_133.2.1 8 = .ok (.isub, 1)) rfl
theorem s_133_9 {K : gC} : gOk K g_Ms mi_133 9 (ga_istore 0 10) := gs_istore_n (by decide +kernel : decode mi_133.2.1 9 = .ok (.istore_n 0, 1)) rfl rfl
theorem s_133_10 {K : gC} : gOk K g_Ms mi_133 10 (ga_iload 0 11) := gs_iload_n (by decide +kernel : decode mi_133.2.1 10 = .ok (.iload_n 0, 1)) rfl rfl
theorem s_133_11 {K : gC} : gOk K g_Ms mi_133 11 (ga_push (.int 858993459) 14) := gs_ldc_w (by decide +kernel : decode mi_133.2.1 11 = .ok (.ldc_w 266, 3)) gw_473 rfl
theorem s_133_14 {K : gC} : gOk K g_Ms mi_133 14 (ga_bin (fun x y => x &&& y) 15) := gs_iand (by decide +kernel : decode mi_133.2.1 14 = .ok (.iand, 1)) rfl
theorem s_133_15 {K : gC} : gOk K g_Ms mi_133 15 (ga_iload 0 16) := gs_iload_n (by decide +kernel : decode mi_133.2.1 15 = .ok (.iload_n 0, 1)) rfl rfl
theorem s_133_16 {K : gC} : gOk K g_Ms mi_133 16 (ga_push (.int 2) 17) := gs_iconst (by decide +kernel : decode mi_133.2.1 16 = .ok (.iconst 2, 1)) (by decide) rfl
theorem s_133_17 {K : gC} : gOk K g_Ms mi_133 17 (ga_bin (fun x y => (x.toUInt32 >>> (y.toUInt32 &&& Int32.toUInt32 31)).toInt32) 18) := gs_iushr (by decide +kernel : decode mi_133.2.1 17 = .ok (.iushr, 1)) rfl
theorem s_133_18 {K : gC} : gOk K g_Ms mi_133 18 (ga_push (.int 858993459) 21) := gs_ldc_w (by decide +kernel : decode mi_133.2.1 18 = .ok (.ldc_w 266, 3)) gw_473 rfl
theorem s_133_21 {K : gC} : gOk K g_Ms mi_133 21 (ga_bin (fun x y => x &&& y) 22) := gs_iand (by decide +kernel : decode mi_133.2.1 21 = .ok (.iand, 1)) rfl
theorem s_133_22 {K : gC} : gOk K g_Ms mi_133 22 (ga_bin (fun x y => x + y) 23) := gs_iadd (by decide +kernel : decode mi_133.2.1 22 = .ok (.iadd, 1)) rfl
theorem s_133_23 {K : gC} : gOk K g_Ms mi_133 23 (ga_istore 0 24) := gs_istore_n (by decide +kernel : decode mi_133.2.1 23 = .ok (.istore_n 0, 1)) rfl rfl
theorem s_133_24 {K : gC} : gOk K g_Ms mi_133 24 (ga_iload 0 25) := gs_iload_n (by decide +kernel : decode mi_133.2.1 24 = .ok (.iload_n 0, 1)) rfl rfl
theorem s_133_25 {K : gC} : gOk K g_Ms mi_133 25 (ga_iload 0 26) := gs_iload_n (by decide +kernel : decode mi_133.2.1 25 = .ok (.iload_n 0, 1)) rfl rfl
theorem s_133_26 {K : gC} : gOk K g_Ms mi_133 26 (ga_push (.int 4) 27) := gs_iconst (by decide +kernel : decode mi_133.2.1 26 = .ok (.iconst 4, 1)) (by decide) rfl
theorem s_133_27 {K : gC} : gOk K g_Ms mi_133 27 (ga_bin (fun x y => (x.toUInt32 >>> (y.toUInt32 &&& Int32.toUInt32 31)).toInt32) 28) := gs_iushr (by decide +kernel : decode mi_133.2.1 27 = .ok (.iushr, 1)) rfl
theorem s_133_28 {K : gC} : gOk K g_Ms mi_133 28 (ga_bin (fun x y => x + y) 29) := gs_iadd (by decide +kernel : decode mi_133.2.1 28 = .ok (.iadd, 1)) rfl
theorem s_133_29 {K : gC} : gOk K g_Ms mi_133 29 (ga_push (.int 252645135) 32) := gs_ldc_w (by decide +kernel : decode mi_133.2.1 29 = .ok (.ldc_w 267, 3)) gw_474 rfl
theorem s_133_32 {K : gC} : gOk K g_Ms mi_133 32 (ga_bin (fun x y => x &&& y) 33) := gs_iand (by decide +kernel : decode mi_133.2.1 32 = .ok (.iand, 1)) rfl
theorem s_133_33 {K : gC} : gOk K g_Ms mi_133 33 (ga_istore 0 34) := gs_istore_n (by decide +kernel : decode mi_133.2.1 33 = .ok (.istore_n 0, 1)) rfl rfl
theorem s_133_34 {K : gC} : gOk K g_Ms mi_133 34 (ga_iload 0 35) := gs_iload_n (by decide +kernel : decode mi_133.2.1 34 = .ok (.iload_n 0, 1)) rfl rfl
theorem s_133_35 {K : gC} : gOk K g_Ms mi_133 35 (ga_iload 0 36) := gs_iload_n (by decide +kernel : decode mi_133.2.1 35 = .ok (.iload_n 0, 1)) rfl rfl
theorem s_133_36 {K : gC} : gOk K g_Ms mi_133 36 (ga_push (.int 8) 38) := gs_bipush (by decide +kernel : decode mi_133.2.1 36 = .ok (.bipush 8, 2)) (by decide) rfl
theorem s_133_38 {K : gC} : gOk K g_Ms mi_133 38 (ga_bin (fun x y => (x.toUInt32 >>> (y.toUInt32 &&& Int32.toUInt32 31)).toInt32) 39) := gs_iushr (by decide +kernel : decode mi_133.2.1 38 = .ok (.iushr, 1)) rfl
theorem s_133_39 {K : gC} : gOk K g_Ms mi_133 39 (ga_bin (fun x y => x + y) 40) := gs_iadd (by decide +kernel : decode mi_133.2.1 39 = .ok (.iadd, 1)) rfl
theorem s_133_40 {K : gC} : gOk K g_Ms mi_133 40 (ga_istore 0 41) := gs_istore_n (by decide +kernel : decode mi_133.2.1 40 = .ok (.istore_n 0, 1)) rfl rfl
theorem s_133_41 {K : gC} : gOk K g_Ms mi_133 41 (ga_iload 0 42) := gs_iload_n (by decide +kernel : decode mi_133.2.1 41 = .ok (.iload_n 0, 1)) rfl rfl
theorem s_133_42 {K : gC} : gOk K g_Ms mi_133 42 (ga_iload 0 43) := gs_iload_n (by decide +kernel : decode mi_133.2.1 42 = .ok (.iload_n 0, 1)) rfl rfl
theorem s_133_43 {K : gC} : gOk K g_Ms mi_133 43 (ga_push (.int 16) 45) := gs_bipush (by decide +kernel : decode mi_133.2.1 43 = .ok (.bipush 16, 2)) (by decide) rfl
theorem s_133_45 {K : gC} : gOk K g_Ms mi_133 45 (ga_bin (fun x y => (x.toUInt32 >>> (y.toUInt32 &&& Int32.toUInt32 31)).toInt32) 46) := gs_iushr (by decide +kernel : decode mi_133.2.1 45 = .ok (.iushr, 1)) rfl
theorem s_133_46 {K : gC} : gOk K g_Ms mi_133 46 (ga_bin (fun x y => x + y) 47) := gs_iadd (by decide +kernel : decode mi_133.2.1 46 = .ok (.iadd, 1)) rfl
theorem s_133_47 {K : gC} : gOk K g_Ms mi_133 47 (ga_istore 0 48) := gs_istore_n (by decide +kernel : decode mi_133.2.1 47 = .ok (.istore_n 0, 1)) rfl rfl
theorem s_133_48 {K : gC} : gOk K g_Ms mi_133 48 (ga_iload 0 49) := gs_iload_n (by decide +kernel : decode mi_133.2.1 48 = .ok (.iload_n 0, 1)) rfl rfl
theorem s_133_49 {K : gC} : gOk K g_Ms mi_133 49 (ga_push (.int 63) 51) := gs_bipush (by decide +kernel : decode mi_133.2.1 49 = .ok (.bipush 63, 2)) (by decide) rfl
theorem s_133_51 {K : gC} : gOk K g_Ms mi_133 51 (ga_bin (fun x y => x &&& y) 52) := gs_iand (by decide +kernel : decode mi_133.2.1 51 = .ok (.iand, 1)) rfl
theorem s_133_52 {K : gC} : gOk K g_Ms mi_133 52 (ga_iret) := gs_iret (by decide +kernel : decode mi_133.2.1 52 = .ok (.ireturn, 1)) rfl
theorem ok_133 {K : gC} : ∀ e ∈ t_133, gOk K g_Ms mi_133 e.1 e.2 := by
  unfold t_133
  simp only [List.forall_mem_cons, List.not_mem_nil, false_implies, implies_true, and_true]
  exact ⟨s_133_0, s_133_1, s_133_2, s_133_3, s_133_4, s_133_7, s_133_8, s_133_9, s_133_10, s_133_11, s_133_14, s_133_15, s_133_16, s_133_17, s_133_18, s_133_21, s_133_22, s_133_23, s_133_24, s_133_25, s_133_26, s_133_27, s_133_28, s_133_29, s_133_32, s_133_33, s_133_34, s_133_35, s_133_36, s_133_38, s_133_39, s_133_40, s_133_41, s_133_42, s_133_43, s_133_45, s_133_46, s_133_47, s_133_48, s_133_49, s_133_51, s_133_52⟩
theorem s_134_0 {K : gC} : gOk K g_Ms mi_134 0 (ga_aload 0 1) := gs_aload_n (by decide +kernel : decode mi_134.2.1 0 = .ok (.aload_n 0, 1)) rfl rfl
theorem s_134_1 {K : gC} : gOk K g_Ms mi_134 1 (ga_getS 4) := gs_getS gw_959 (by decide +kernel : decode mi_134.2.1 1 = .ok (.getfield 9, 3)) rfl
theorem s_134_4 {K : gC} : gOk K g_Ms mi_134 4 (ga_alen 5) := gs_alen (by decide +kernel : decode mi_134.2.1 4 = .ok (.arraylength, 1)) rfl
theorem s_134_5 {K : gC} : gOk K g_Ms mi_134 5 (ga_aload 0 6) := gs_aload_n (by decide +kernel : decode mi_134.2.1 5 = .ok (.aload_n 0, 1)) rfl rfl
theorem s_134_6 {K : gC} : gOk K g_Ms mi_134 6 (ga_callV 12 136 0 9) := gs_callT (gce_J0_coder_7d493 (by decide) (by decide)) gw_338 gw_339 gw_340 (by decide +kernel : decode mi_134.2.1 6 = .ok (.invokevirtual 335, 3)) rfl
theorem s_134_9 {K : gC} : gOk K g_Ms mi_134 9 (ga_bin (fun x y => x >>> (y &&& 31)) 10) := gs_ishr (by decide +kernel : decode mi_134.2.1 9 = .ok (.ishr, 1)) rfl
theorem s_134_10 {K : gC} : gOk K g_Ms mi_134 10 (ga_iret) := gs_iret (by decide +kernel : decode mi_134.2.1 10 = .ok (.ireturn, 1)) rfl
theorem ok_134 {K : gC} : ∀ e ∈ t_134, gOk K g_Ms mi_134 e.1 e.2 := by
  unfold t_134
  simp only [List.forall_mem_cons, List.not_mem_nil, false_implies, implies_true, and_true]
  exact ⟨s_134_0, s_134_1, s_134_4, s_134_5, s_134_6, s_134_9, s_134_10⟩
theorem s_135_0 {K : gC} : gOk K g_Ms mi_135 0 (ga_aload 0 1) := gs_aload_n (by decide +kernel : decode mi_135.2.1 0 = .ok (.aload_n 0, 1)) rfl rfl
theorem s_135_1 {K : gC} : gOk K g_Ms mi_135 1 (ga_callV 12 137 0 4) := gs_callT (gce_J0_isLatin1_aae02 (by decide) (by decide)) gw_348 gw_349 gw_350 (by decide +kernel : decode mi_135.2.1 1 = .ok (.invokevirtual 492, 3)) rfl
theorem s_135_4 {K : gC} : gOk K g_Ms mi_135 4 (ga_if (fun x => decide (x = 0)) 16 7) := gs_if_eq (by decide +kernel : decode mi_135.2.1 4 = .ok (.ifCond .eq 12, 3)) (by decide) rfl
theorem s_135_7 {K : gC} : gOk K g_Ms mi_135 7 (ga_aload 0 8) := gs_aload_n (by decide +kernel : decode mi_135.2.1 7 = .ok (.aload_n 0, 1)) rfl rfl
theorem s_135_8 {K : gC} : gOk K g_Ms mi_135 8 (ga_getS 11) := gs_getS gw_959 (by decide +kernel : decode mi_135.2.1 8 = .ok (.getfield 9, 3)) rfl
theorem s_135_11 {K : gC} : gOk K g_Ms mi_135 11 (ga_iload 1 12) := gs_iload_n (by decide +kernel : decode mi_135.2.1 11 = .ok (.iload_n 1, 1)) rfl rfl
theorem s_135_12 {K : gC} : gOk K g_Ms mi_135 12 (ga_call 139 2 15) := gs_callS (gce_J1_charAt_3b067 (by decide) (by decide)) gw_352 gw_353 (by decide +kernel : decode mi_135.2.1 12 = .ok (.invokestatic 495, 3)) rfl
theorem s_135_15 {K : gC} : gOk K g_Ms mi_135 15 (ga_cret) := gs_cret (by decide +kernel : decode mi_135.2.1 15 = .ok (.ireturn, 1)) rfl
theorem s_135_16 {K : gC} : gOk K g_Ms mi_135 16 (ga_aload 0 17) := gs_aload_n (by decide +kernel : decode mi_135.2.1 16 = .ok (.aload_n 0, 1)) rfl rfl
theorem s_135_17 {K : gC} : gOk K g_Ms mi_135 17 (ga_getS 20) := gs_getS gw_959 (by decide +kernel : decode mi_135.2.1 17 = .ok (.getfield 9, 3)) rfl
theorem s_135_20 {K : gC} : gOk K g_Ms mi_135 20 (ga_iload 1 21) := gs_iload_n (by decide +kernel : decode mi_135.2.1 20 = .ok (.iload_n 1, 1)) rfl rfl
theorem s_135_24 {K : gC} : gOk K g_Ms mi_135 24 (ga_cret) := gs_cret (by decide +kernel : decode mi_135.2.1 24 = .ok (.ireturn, 1)) rfl
theorem ok_135 {K : gC} : ∀ e ∈ t_135, gOk K g_Ms mi_135 e.1 e.2 := by
  unfold t_135
  simp only [List.forall_mem_cons, List.not_mem_nil, false_implies, implies_true, and_true]
  exact ⟨s_135_0, s_135_1, s_135_4, s_135_7, s_135_8, s_135_11, s_135_12, s_135_15, s_135_16, s_135_17, s_135_20, s_135_24⟩
theorem s_136_0 {K : gC} : gOk K g_Ms mi_136 0 (ga_push (.int 1) 3) := gs_getsC gw_342 (by decide +kernel : decode mi_136.2.1 0 = .ok (.getstatic 38, 3)) rfl
theorem s_136_3 {K : gC} : gOk K g_Ms mi_136 3 (ga_if (fun x => decide (x = 0)) 13 6) := gs_if_eq (by decide +kernel : decode mi_136.2.1 3 = .ok (.ifCond .eq 10, 3)) (by decide) rfl
theorem s_136_6 {K : gC} : gOk K g_Ms mi_136 6 (ga_aload 0 7) := gs_aload_n (by decide +kernel : decode mi_136.2.1 6 = .ok (.aload_n 0, 1)) rfl rfl
theorem s_136_7 {K : gC} : gOk K g_Ms mi_136 7 (ga_getC 10) := gs_getC gw_960 (by decide +kernel : decode mi_136.2.1 7 = .ok (.getfield 15, 3)) rfl
theorem s_136_10 {K : gC} : gOk K g_Ms mi_136 10 (ga_goto 14) := gs_goto (by decide +kernel : decode mi_136.2.1 10 = .ok (.goto 4, 3)) (by decide)
theorem s_136_13 {K : gC} : gOk K g_Ms mi_136 13 (ga_push (.int 1) 14) := gs_iconst (by decide +kernel : decode mi_136.2.1 13 = .ok (.iconst 1, 1)) (by decide) rfl
theorem s_136_14 {K : gC} : gOk K g_Ms mi_136 14 (ga_zret) := gs_zret (by decide +kernel : decode mi_136.2.1 14 = .ok (.ireturn, 1)) rfl rfl rfl
theorem ok_136 {K : gC} : ∀ e ∈ t_136, gOk K g_Ms mi_136 e.1 e.2 := by
  unfold t_136
  simp only [List.forall_mem_cons, List.not_mem_nil, false_implies, implies_true, and_true]
  exact ⟨s_136_0, s_136_3, s_136_6, s_136_7, s_136_10, s_136_13, s_136_14⟩
theorem s_137_0 {K : gC} : gOk K g_Ms mi_137 0 (ga_push (.int 1) 3) := gs_getsC gw_342 (by decide +kernel : decode mi_137.2.1 0 = .ok (.getstatic 38, 3)) rfl
theorem s_137_3 {K : gC} : gOk K g_Ms mi_137 3 (ga_if (fun x => decide (x = 0)) 17 6) := gs_if_eq (by decide +kernel : decode mi_137.2.1 3 = .ok (.ifCond .eq 14, 3)) (by decide) rfl
theorem s_137_6 {K : gC} : gOk K g_Ms mi_137 6 (ga_aload 0 7) := gs_aload_n (by decide +kernel : decode mi_137.2.1 6 = .ok (.aload_n 0, 1)) rfl rfl
theorem s_137_7 {K : gC} : gOk K g_Ms mi_137 7 (ga_getC 10) := gs_getC gw_960 (by decide +kernel : decode mi_137.2.1 7 = .ok (.getfield 15, 3)) rfl
theorem s_137_10 {K : gC} : gOk K g_Ms mi_137 10 (ga_if (fun x => decide (¬ x = 0)) 17 13) := gs_if_ne (by decide +kernel : decode mi_137.2.1 10 = .ok (.ifCond .ne 7, 3)) (by decide) rfl
theorem s_137_13 {K : gC} : gOk K g_Ms mi_137 13 (ga_push (.int 1) 14) := gs_iconst (by decide +kernel : decode mi_137.2.1 13 = .ok (.iconst 1, 1)) (by decide) rfl
theorem s_137_14 {K : gC} : gOk K g_Ms mi_137 14 (ga_goto 18) := gs_goto (by decide +kernel : decode mi_137.2.1 14 = .ok (.goto 4, 3)) (by decide)
theorem s_137_17 {K : gC} : gOk K g_Ms mi_137 17 (ga_push (.int 0) 18) := gs_iconst (by decide +kernel : decode mi_137.2.1 17 = .ok (.iconst 0, 1)) (by decide) rfl
theorem s_137_18 {K : gC} : gOk K g_Ms mi_137 18 (ga_zret) := gs_zret (by decide +kernel : decode mi_137.2.1 18 = .ok (.ireturn, 1)) rfl rfl rfl
theorem ok_137 {K : gC} : ∀ e ∈ t_137, gOk K g_Ms mi_137 e.1 e.2 := by
  unfold t_137
  simp only [List.forall_mem_cons, List.not_mem_nil, false_implies, implies_true, and_true]
  exact ⟨s_137_0, s_137_3, s_137_6, s_137_7, s_137_10, s_137_13, s_137_14, s_137_17, s_137_18⟩
theorem s_138_0 {K : gC} : gOk K g_Ms mi_138 0 (ga_iload 0 1) := gs_iload_n (by decide +kernel : decode mi_138.2.1 0 = .ok (.iload_n 0, 1)) rfl rfl
theorem s_138_1 {K : gC} : gOk K g_Ms mi_138 1 (ga_iload 1 2) := gs_iload_n (by decide +kernel : decode mi_138.2.1 1 = .ok (.iload_n 1, 1)) rfl rfl
theorem s_138_2 {K : gC} : gOk K g_Ms mi_138 2 (ga_push (.retAddr 0) 5) := gs_getsF gw_358 (by decide +kernel : decode mi_138.2.1 2 = .ok (.getstatic 1053, 3)) rfl
theorem s_138_5 {K : gC} : gOk K g_Ms mi_138 5 (ga_call 141 3 8) := gs_callS (gce_J3_checkIndex_8e157 (by decide) (by decide)) gw_360 gw_361 (by decide +kernel : decode mi_138.2.1 5 = .ok (.invokestatic 1059, 3)) rfl
theorem s_138_8 {K : gC} : gOk K g_Ms mi_138 8 (ga_pop 9) := gs_pop (by decide +kernel : decode mi_138.2.1 8 = .ok (.pop, 1)) rfl
theorem s_138_9 {K : gC} : gOk K g_Ms mi_138 9 (ga_vret) := gs_vret (by decide +kernel : decode mi_138.2.1 9 = .ok (.return_, 1)) rfl
theorem ok_138 {K : gC} : ∀ e ∈ t_138, gOk K g_Ms mi_138 e.1 e.2 := by
  unfold t_138
  simp only [List.forall_mem_cons, List.not_mem_nil, false_implies, implies_true, and_true]
  exact ⟨s_138_0, s_138_1, s_138_2, s_138_5, s_138_8, s_138_9⟩
theorem s_139_0 {K : gC} : gOk K g_Ms mi_139 0 (ga_iload 1 1) := gs_iload_n (by decide +kernel : decode mi_139.2.1 0 = .ok (.iload_n 1, 1)) rfl rfl
theorem s_139_1 {K : gC} : gOk K g_Ms mi_139 1 (ga_aload 0 2) := gs_aload_n (by decide +kernel : decode mi_139.2.1 1 = .ok (.aload_n 0, 1)) rfl rfl
theorem s_139_2 {K : gC} : gOk K g_Ms mi_139 2 (ga_alen 3) := gs_alen (by decide +kernel : decode mi_139.2.1 2 = .ok (.arraylength, 1)) rfl
theorem s_139_3 {K : gC} : gOk K g_Ms mi_139 3 (ga_call 138 2 6) := gs_callS (gce_J0_checkIndex_df160 (by decide) (by decide)) gw_355 gw_356 (by decide +kernel : decode mi_139.2.1 3 = .ok (.invokestatic 9, 3)) rfl
theorem s_139_6 {K : gC} : gOk K g_Ms mi_139 6 (ga_aload 0 7) := gs_aload_n (by decide +kernel : decode mi_139.2.1 6 = .ok (.aload_n 0, 1)) rfl rfl
theorem s_139_7 {K : gC} : gOk K g_Ms mi_139 7 (ga_iload 1 8) := gs_iload_n (by decide +kernel : decode mi_139.2.1 7 = .ok (.iload_n 1, 1)) rfl rfl
theorem s_139_8 {K : gC} : gOk K g_Ms mi_139 8 (ga_bald 9) := gs_zald (by decide +kernel : decode mi_139.2.1 8 = .ok (.baload, 1)) rfl
theorem s_139_9 {K : gC} : gOk K g_Ms mi_139 9 (ga_push (.int 255) 12) := gs_sipush (by decide +kernel : decode mi_139.2.1 9 = .ok (.sipush 255, 3)) (by decide) rfl
theorem s_139_12 {K : gC} : gOk K g_Ms mi_139 12 (ga_bin (fun x y => x &&& y) 13) := gs_iand (by decide +kernel : decode mi_139.2.1 12 = .ok (.iand, 1)) rfl
theorem s_139_13 {K : gC} : gOk K g_Ms mi_139 13 (ga_un (fun x => (x.toUInt32 % 65536).toInt32) 14) := gs_i2c (by decide +kernel : decode mi_139.2.1 13 = .ok (.i2c, 1)) rfl
theorem s_139_14 {K : gC} : gOk K g_Ms mi_139 14 (ga_cret) := gs_cret (by decide +kernel : decode mi_139.2.1 14 = .ok (.ireturn, 1)) rfl
theorem ok_139 {K : gC} : ∀ e ∈ t_139, gOk K g_Ms mi_139 e.1 e.2 := by
  unfold t_139
  simp only [List.forall_mem_cons, List.not_mem_nil, false_implies, implies_true, and_true]
  exact ⟨s_139_0, s_139_1, s_139_2, s_139_3, s_139_6, s_139_7, s_139_8, s_139_9, s_139_12, s_139_13, s_139_14⟩
theorem s_140_0 {K : gC} : gOk K g_Ms mi_140 0 (ga_push (.int 0) 1) := gs_iconst (by decide +kernel : decode mi_140.2.1 0 = .ok (.iconst 0, 1)) (by decide) rfl
theorem s_140_1 {K : gC} : gOk K g_Ms mi_140 1 (ga_istore 2 2) := gs_istore_n (by decide +kernel : decode mi_140.2.1 1 = .ok (.istore_n 2, 1)) rfl rfl
theorem s_140_2 {K : gC} : gOk K g_Ms mi_140 2 (ga_aload 0 3) := gs_aload_n (by decide +kernel : decode mi_140.2.1 2 = .ok (.aload_n 0, 1)) rfl rfl
theorem s_140_3 {K : gC} : gOk K g_Ms mi_140 3 (ga_alen 4) := gs_alen (by decide +kernel : decode mi_140.2.1 3 = .ok (.arraylength, 1)) rfl
theorem s_140_4 {K : gC} : gOk K g_Ms mi_140 4 (ga_istore 3 5) := gs_istore_n (by decide +kernel : decode mi_140.2.1 4 = .ok (.istore_n 3, 1)) rfl rfl
theorem s_140_5 {K : gC} : gOk K g_Ms mi_140 5 (ga_iload 2 6) := gs_iload_n (by decide +kernel : decode mi_140.2.1 5 = .ok (.iload_n 2, 1)) rfl rfl
theorem s_140_6 {K : gC} : gOk K g_Ms mi_140 6 (ga_iload 3 7) := gs_iload_n (by decide +kernel : decode mi_140.2.1 6 = .ok (.iload_n 3, 1)) rfl rfl
theorem s_140_7 {K : gC} : gOk K g_Ms mi_140 7 (ga_cmp (fun x y => decide (y ≤ x)) 20 10) := gs_cmp_ge (by decide +kernel : decode mi_140.2.1 7 = .ok (.if_icmp .ge 13, 3)) (by decide) rfl
theorem s_140_10 {K : gC} : gOk K g_Ms mi_140 10 (ga_aload 0 11) := gs_aload_n (by decide +kernel : decode mi_140.2.1 10 = .ok (.aload_n 0, 1)) rfl rfl
theorem s_140_11 {K : gC} : gOk K g_Ms mi_140 11 (ga_iload 2 12) := gs_iload_n (by decide +kernel : decode mi_140.2.1 11 = .ok (.iload_n 2, 1)) rfl rfl
theorem s_140_12 {K : gC} : gOk K g_Ms mi_140 12 (ga_iload 1 13) := gs_iload_n (by decide +kernel : decode mi_140.2.1 12 = .ok (.iload_n 1, 1)) rfl rfl
theorem s_140_13 {K : gC} : gOk K g_Ms mi_140 13 (ga_iast 14) := gs_iast (by decide +kernel : decode mi_140.2.1 13 = .ok (.iastore, 1)) rfl
theorem s_140_14 {K : gC} : gOk K g_Ms mi_140 14 (ga_iinc 2 1 17) := gs_iinc (by decide +kernel : decode mi_140.2.1 14 = .ok (.iinc 2 1, 3)) (by decide) rfl
theorem s_140_17 {K : gC} : gOk K g_Ms mi_140 17 (ga_goto 5) := gs_goto (by decide +kernel : decode mi_140.2.1 17 = .ok (.goto (-12), 3)) (by decide)
theorem s_140_20 {K : gC} : gOk K g_Ms mi_140 20 (ga_vret) := gs_vret (by decide +kernel : decode mi_140.2.1 20 = .ok (.return_, 1)) rfl
theorem ok_140 {K : gC} : ∀ e ∈ t_140, gOk K g_Ms mi_140 e.1 e.2 := by
  unfold t_140
  simp only [List.forall_mem_cons, List.not_mem_nil, false_implies, implies_true, and_true]
  exact ⟨s_140_0, s_140_1, s_140_2, s_140_3, s_140_4, s_140_5, s_140_6, s_140_7, s_140_10, s_140_11, s_140_12, s_140_13, s_140_14, s_140_17, s_140_20⟩
theorem s_141_0 {K : gC} : gOk K g_Ms mi_141 0 (ga_iload 0 1) := gs_iload_n (by decide +kernel : decode mi_141.2.1 0 = .ok (.iload_n 0, 1)) rfl rfl
theorem s_141_1 {K : gC} : gOk K g_Ms mi_141 1 (ga_if (fun x => decide (x < 0)) 9 4) := gs_if_lt (by decide +kernel : decode mi_141.2.1 1 = .ok (.ifCond .lt 8, 3)) (by decide) rfl
theorem s_141_4 {K : gC} : gOk K g_Ms mi_141 4 (ga_iload 0 5) := gs_iload_n (by decide +kernel : decode mi_141.2.1 4 = .ok (.iload_n 0, 1)) rfl rfl
theorem s_141_5 {K : gC} : gOk K g_Ms mi_141 5 (ga_iload 1 6) := gs_iload_n (by decide +kernel : decode mi_141.2.1 5 = .ok (.iload_n 1, 1)) rfl rfl
theorem s_141_6 {K : gC} : gOk K g_Ms mi_141 6 (ga_cmp (fun x y => decide (x < y)) 16 9) := gs_cmp_lt (by decide +kernel : decode mi_141.2.1 6 = .ok (.if_icmp .lt 10, 3)) (by decide) rfl
theorem s_141_9 {K : gC} : gOk K g_Ms mi_141 9 (ga_aload 2 10) := gs_aload_n (by decide +kernel : decode mi_141.2.1 9 = .ok (.aload_n 2, 1)) rfl rfl
theorem s_141_10 {K : gC} : gOk K g_Ms mi_141 10 (ga_iload 0 11) := gs_iload_n (by decide +kernel : decode mi_141.2.1 10 = .ok (.iload_n 0, 1)) rfl rfl
theorem s_141_11 {K : gC} : gOk K g_Ms mi_141 11 (ga_iload 1 12) := gs_iload_n (by decide +kernel : decode mi_141.2.1 11 = .ok (.iload_n 1, 1)) rfl rfl
theorem s_141_16 {K : gC} : gOk K g_Ms mi_141 16 (ga_iload 0 17) := gs_iload_n (by decide +kernel : decode mi_141.2.1 16 = .ok (.iload_n 0, 1)) rfl rfl
theorem s_141_17 {K : gC} : gOk K g_Ms mi_141 17 (ga_iret) := gs_iret (by decide +kernel : decode mi_141.2.1 17 = .ok (.ireturn, 1)) rfl
theorem ok_141 {K : gC} : ∀ e ∈ t_141, gOk K g_Ms mi_141 e.1 e.2 := by
  unfold t_141
  simp only [List.forall_mem_cons, List.not_mem_nil, false_implies, implies_true, and_true]
  exact ⟨s_141_0, s_141_1, s_141_4, s_141_5, s_141_6, s_141_9, s_141_10, s_141_11, s_141_16, s_141_17⟩
