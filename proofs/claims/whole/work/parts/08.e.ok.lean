theorem s_82_0 {K : gC} : gOk K g_Ms mi_82 0 (ga_aload 0 1) := gs_aload_n (by decide +kernel : decode mi_82.2.1 0 = .ok (.aload_n 0, 1)) rfl rfl
theorem s_82_1 {K : gC} : gOk K g_Ms mi_82 1 (ga_oinit 4) := gs_oinit gw_651 gw_59 gw_objc (by decide) (by decide) (by decide +kernel : decode mi_82.2.1 1 = .ok (.invokespecial 1, 3)) rfl
theorem s_82_4 {K : gC} : gOk K g_Ms mi_82 4 (ga_aload 0 5) := gs_aload_n (by decide +kernel : decode mi_82.2.1 4 = .ok (.aload_n 0, 1)) rfl rfl
theorem s_82_5 {K : gC} : gOk K g_Ms mi_82 5 (ga_push (.int 4) 6) := gs_iconst (by decide +kernel : decode mi_82.2.1 5 = .ok (.iconst 4, 1)) (by decide) rfl
theorem s_82_6 {K : gC} : gOk K g_Ms mi_82 6 (ga_putI 7 0 9) := gs_putI gcls_7 (by decide) (by decide) rfl rfl gw_656 (by decide +kernel : decode mi_82.2.1 6 = .ok (.putfield 7, 3)) rfl
theorem s_82_9 {K : gC} : gOk K g_Ms mi_82 9 (ga_aload 0 10) := gs_aload_n (by decide +kernel : decode mi_82.2.1 9 = .ok (.aload_n 0, 1)) rfl rfl
theorem s_82_10 {K : gC} : gOk K g_Ms mi_82 10 (ga_push (.int 10) 12) := gs_bipush (by decide +kernel : decode mi_82.2.1 10 = .ok (.bipush 10, 2)) (by decide) rfl
theorem s_82_12 {K : gC} : gOk K g_Ms mi_82 12 (ga_newa 8 14) := gs_newaI gw_88 (by decide +kernel : decode mi_82.2.1 12 = .ok (.newarray .int, 2)) rfl
theorem s_82_14 {K : gC} : gOk K g_Ms mi_82 14 (ga_putR 7 1 17) := gs_putR gcls_7 (by decide) (by decide) (fun _ => ⟨rfl, rfl⟩) rfl rfl rfl gw_657 (by decide +kernel : decode mi_82.2.1 14 = .ok (.putfield 13, 3)) rfl
theorem s_82_17 {K : gC} : gOk K g_Ms mi_82 17 (ga_aload 0 18) := gs_aload_n (by decide +kernel : decode mi_82.2.1 17 = .ok (.aload_n 0, 1)) rfl rfl
theorem s_82_18 {K : gC} : gOk K g_Ms mi_82 18 (ga_push (.int 10) 20) := gs_bipush (by decide +kernel : decode mi_82.2.1 18 = .ok (.bipush 10, 2)) (by decide) rfl
theorem s_82_20 {K : gC} : gOk K g_Ms mi_82 20 (ga_newa 8 22) := gs_newaI gw_88 (by decide +kernel : decode mi_82.2.1 20 = .ok (.newarray .int, 2)) rfl
theorem s_82_22 {K : gC} : gOk K g_Ms mi_82 22 (ga_putR 7 2 25) := gs_putR gcls_7 (by decide) (by decide) (fun _ => ⟨rfl, rfl⟩) rfl rfl rfl gw_658 (by decide +kernel : decode mi_82.2.1 22 = .ok (.putfield 17, 3)) rfl
theorem s_82_25 {K : gC} : gOk K g_Ms mi_82 25 (ga_aload 0 26) := gs_aload_n (by decide +kernel : decode mi_82.2.1 25 = .ok (.aload_n 0, 1)) rfl rfl
theorem s_82_26 {K : gC} : gOk K g_Ms mi_82 26 (ga_push (.int 10) 28) := gs_bipush (by decide +kernel : decode mi_82.2.1 26 = .ok (.bipush 10, 2)) (by decide) rfl
theorem s_82_28 {K : gC} : gOk K g_Ms mi_82 28 (ga_newa 8 30) := gs_newaI gw_88 (by decide +kernel : decode mi_82.2.1 28 = .ok (.newarray .int, 2)) rfl
theorem s_82_30 {K : gC} : gOk K g_Ms mi_82 30 (ga_putR 7 3 33) := gs_putR gcls_7 (by decide) (by decide) (fun _ => ⟨rfl, rfl⟩) rfl rfl rfl gw_659 (by decide +kernel : decode mi_82.2.1 30 = .ok (.putfield 20, 3)) rfl
theorem s_82_33 {K : gC} : gOk K g_Ms mi_82 33 (ga_aload 0 34) := gs_aload_n (by decide +kernel : decode mi_82.2.1 33 = .ok (.aload_n 0, 1)) rfl rfl
theorem s_82_34 {K : gC} : gOk K g_Ms mi_82 34 (ga_push (.int 10) 36) := gs_bipush (by decide +kernel : decode mi_82.2.1 34 = .ok (.bipush 10, 2)) (by decide) rfl
theorem s_82_36 {K : gC} : gOk K g_Ms mi_82 36 (ga_newa 8 38) := gs_newaI gw_88 (by decide +kernel : decode mi_82.2.1 36 = .ok (.newarray .int, 2)) rfl
theorem s_82_38 {K : gC} : gOk K g_Ms mi_82 38 (ga_putR 7 4 41) := gs_putR gcls_7 (by decide) (by decide) (fun _ => ⟨rfl, rfl⟩) rfl rfl rfl gw_660 (by decide +kernel : decode mi_82.2.1 38 = .ok (.putfield 23, 3)) rfl
theorem s_82_41 {K : gC} : gOk K g_Ms mi_82 41 (ga_aload 0 42) := gs_aload_n (by decide +kernel : decode mi_82.2.1 41 = .ok (.aload_n 0, 1)) rfl rfl
theorem s_82_42 {K : gC} : gOk K g_Ms mi_82 42 (ga_push (.int 200) 45) := gs_sipush (by decide +kernel : decode mi_82.2.1 42 = .ok (.sipush 200, 3)) (by decide) rfl
theorem s_82_45 {K : gC} : gOk K g_Ms mi_82 45 (ga_newa 8 47) := gs_newaI gw_88 (by decide +kernel : decode mi_82.2.1 45 = .ok (.newarray .int, 2)) rfl
theorem s_82_47 {K : gC} : gOk K g_Ms mi_82 47 (ga_putR 7 8 50) := gs_putR gcls_7 (by decide) (by decide) (fun _ => ⟨rfl, rfl⟩) rfl rfl rfl gw_664 (by decide +kernel : decode mi_82.2.1 47 = .ok (.putfield 26, 3)) rfl
theorem s_82_50 {K : gC} : gOk K g_Ms mi_82 50 (ga_aload 0 51) := gs_aload_n (by decide +kernel : decode mi_82.2.1 50 = .ok (.aload_n 0, 1)) rfl rfl
theorem s_82_51 {K : gC} : gOk K g_Ms mi_82 51 (ga_push (.int 48) 53) := gs_bipush (by decide +kernel : decode mi_82.2.1 51 = .ok (.bipush 48, 2)) (by decide) rfl
theorem s_82_53 {K : gC} : gOk K g_Ms mi_82 53 (ga_newa 8 55) := gs_newaI gw_88 (by decide +kernel : decode mi_82.2.1 53 = .ok (.newarray .int, 2)) rfl
theorem s_82_55 {K : gC} : gOk K g_Ms mi_82 55 (ga_putR 7 17 58) := gs_putR gcls_7 (by decide) (by decide) (fun _ => ⟨rfl, rfl⟩) rfl rfl rfl gw_673 (by decide +kernel : decode mi_82.2.1 55 = .ok (.putfield 29, 3)) rfl
theorem s_82_58 {K : gC} : gOk K g_Ms mi_82 58 (ga_aload 0 59) := gs_aload_n (by decide +kernel : decode mi_82.2.1 58 = .ok (.aload_n 0, 1)) rfl rfl
theorem s_82_59 {K : gC} : gOk K g_Ms mi_82 59 (ga_push (.int 10) 61) := gs_bipush (by decide +kernel : decode mi_82.2.1 59 = .ok (.bipush 10, 2)) (by decide) rfl
theorem s_82_61 {K : gC} : gOk K g_Ms mi_82 61 (ga_newa 10 63) := gs_newaJ gw_166 (by decide +kernel : decode mi_82.2.1 61 = .ok (.newarray .long, 2)) rfl
theorem s_82_63 {K : gC} : gOk K g_Ms mi_82 63 (ga_putR 7 18 66) := gs_putR gcls_7 (by decide) (by decide) (fun _ => ⟨rfl, rfl⟩) rfl rfl rfl gw_674 (by decide +kernel : decode mi_82.2.1 63 = .ok (.putfield 32, 3)) rfl
theorem s_82_66 {K : gC} : gOk K g_Ms mi_82 66 (ga_aload 0 67) := gs_aload_n (by decide +kernel : decode mi_82.2.1 66 = .ok (.aload_n 0, 1)) rfl rfl
theorem s_82_67 {K : gC} : gOk K g_Ms mi_82 67 (ga_push (.int 10) 69) := gs_bipush (by decide +kernel : decode mi_82.2.1 67 = .ok (.bipush 10, 2)) (by decide) rfl
theorem s_82_69 {K : gC} : gOk K g_Ms mi_82 69 (ga_newa 8 71) := gs_newaI gw_88 (by decide +kernel : decode mi_82.2.1 69 = .ok (.newarray .int, 2)) rfl
theorem s_82_71 {K : gC} : gOk K g_Ms mi_82 71 (ga_putR 7 19 74) := gs_putR gcls_7 (by decide) (by decide) (fun _ => ⟨rfl, rfl⟩) rfl rfl rfl gw_675 (by decide +kernel : decode mi_82.2.1 71 = .ok (.putfield 36, 3)) rfl
theorem s_82_74 {K : gC} : gOk K g_Ms mi_82 74 (ga_aload 0 75) := gs_aload_n (by decide +kernel : decode mi_82.2.1 74 = .ok (.aload_n 0, 1)) rfl rfl
theorem s_82_75 {K : gC} : gOk K g_Ms mi_82 75 (ga_push (.int 46) 77) := gs_bipush (by decide +kernel : decode mi_82.2.1 75 = .ok (.bipush 46, 2)) (by decide) rfl
theorem s_82_77 {K : gC} : gOk K g_Ms mi_82 77 (ga_newa 10 79) := gs_newaJ gw_166 (by decide +kernel : decode mi_82.2.1 77 = .ok (.newarray .long, 2)) rfl
theorem s_82_79 {K : gC} : gOk K g_Ms mi_82 79 (ga_putR 7 22 82) := gs_putR gcls_7 (by decide) (by decide) (fun _ => ⟨rfl, rfl⟩) rfl rfl rfl gw_678 (by decide +kernel : decode mi_82.2.1 79 = .ok (.putfield 39, 3)) rfl
theorem s_82_82 {K : gC} : gOk K g_Ms mi_82 82 (ga_aload 0 83) := gs_aload_n (by decide +kernel : decode mi_82.2.1 82 = .ok (.aload_n 0, 1)) rfl rfl
theorem s_82_83 {K : gC} : gOk K g_Ms mi_82 83 (ga_push (.int 2) 84) := gs_iconst (by decide +kernel : decode mi_82.2.1 83 = .ok (.iconst 2, 1)) (by decide) rfl
theorem s_82_84 {K : gC} : gOk K g_Ms mi_82 84 (ga_newa 9 86) := gs_newaZ gw_167 (by decide +kernel : decode mi_82.2.1 84 = .ok (.newarray .boolean, 2)) rfl
theorem s_82_86 {K : gC} : gOk K g_Ms mi_82 86 (ga_putR 7 23 89) := gs_putR gcls_7 (by decide) (by decide) (fun _ => ⟨rfl, rfl⟩) rfl rfl rfl gw_679 (by decide +kernel : decode mi_82.2.1 86 = .ok (.putfield 42, 3)) rfl
theorem s_82_89 {K : gC} : gOk K g_Ms mi_82 89 (ga_aload 0 90) := gs_aload_n (by decide +kernel : decode mi_82.2.1 89 = .ok (.aload_n 0, 1)) rfl rfl
theorem s_82_90 {K : gC} : gOk K g_Ms mi_82 90 (ga_push (.int 16) 92) := gs_bipush (by decide +kernel : decode mi_82.2.1 90 = .ok (.bipush 16, 2)) (by decide) rfl
theorem s_82_92 {K : gC} : gOk K g_Ms mi_82 92 (ga_newa 8 94) := gs_newaI gw_88 (by decide +kernel : decode mi_82.2.1 92 = .ok (.newarray .int, 2)) rfl
theorem s_82_94 {K : gC} : gOk K g_Ms mi_82 94 (ga_putR 7 25 97) := gs_putR gcls_7 (by decide) (by decide) (fun _ => ⟨rfl, rfl⟩) rfl rfl rfl gw_681 (by decide +kernel : decode mi_82.2.1 94 = .ok (.putfield 46, 3)) rfl
theorem s_82_97 {K : gC} : gOk K g_Ms mi_82 97 (ga_aload 0 98) := gs_aload_n (by decide +kernel : decode mi_82.2.1 97 = .ok (.aload_n 0, 1)) rfl rfl
theorem s_82_98 {K : gC} : gOk K g_Ms mi_82 98 (ga_push (.int 10) 100) := gs_bipush (by decide +kernel : decode mi_82.2.1 98 = .ok (.bipush 10, 2)) (by decide) rfl
theorem s_82_100 {K : gC} : gOk K g_Ms mi_82 100 (ga_newa 8 102) := gs_newaI gw_88 (by decide +kernel : decode mi_82.2.1 100 = .ok (.newarray .int, 2)) rfl
theorem s_82_102 {K : gC} : gOk K g_Ms mi_82 102 (ga_putR 7 26 105) := gs_putR gcls_7 (by decide) (by decide) (fun _ => ⟨rfl, rfl⟩) rfl rfl rfl gw_682 (by decide +kernel : decode mi_82.2.1 102 = .ok (.putfield 49, 3)) rfl
theorem s_82_105 {K : gC} : gOk K g_Ms mi_82 105 (ga_aload 0 106) := gs_aload_n (by decide +kernel : decode mi_82.2.1 105 = .ok (.aload_n 0, 1)) rfl rfl
theorem s_82_106 {K : gC} : gOk K g_Ms mi_82 106 (ga_push (.int (-1)) 107) := gs_iconst (by decide +kernel : decode mi_82.2.1 106 = .ok (.iconst (-1), 1)) (by decide) rfl
theorem s_82_107 {K : gC} : gOk K g_Ms mi_82 107 (ga_putI 7 27 110) := gs_putI gcls_7 (by decide) (by decide) rfl rfl gw_683 (by decide +kernel : decode mi_82.2.1 107 = .ok (.putfield 52, 3)) rfl
theorem s_82_110 {K : gC} : gOk K g_Ms mi_82 110 (ga_aload 0 111) := gs_aload_n (by decide +kernel : decode mi_82.2.1 110 = .ok (.aload_n 0, 1)) rfl rfl
theorem s_82_111 {K : gC} : gOk K g_Ms mi_82 111 (ga_push (.int 10) 113) := gs_bipush (by decide +kernel : decode mi_82.2.1 111 = .ok (.bipush 10, 2)) (by decide) rfl
theorem s_82_113 {K : gC} : gOk K g_Ms mi_82 113 (ga_newa 8 115) := gs_newaI gw_88 (by decide +kernel : decode mi_82.2.1 113 = .ok (.newarray .int, 2)) rfl
theorem s_82_115 {K : gC} : gOk K g_Ms mi_82 115 (ga_putR 7 28 118) := gs_putR gcls_7 (by decide) (by decide) (fun _ => ⟨rfl, rfl⟩) rfl rfl rfl gw_684 (by decide +kernel : decode mi_82.2.1 115 = .ok (.putfield 55, 3)) rfl
theorem s_82_118 {K : gC} : gOk K g_Ms mi_82 118 (ga_aload 0 119) := gs_aload_n (by decide +kernel : decode mi_82.2.1 118 = .ok (.aload_n 0, 1)) rfl rfl
theorem s_82_119 {K : gC} : gOk K g_Ms mi_82 119 (ga_push (.int 100) 121) := gs_bipush (by decide +kernel : decode mi_82.2.1 119 = .ok (.bipush 100, 2)) (by decide) rfl
theorem s_82_121 {K : gC} : gOk K g_Ms mi_82 121 (ga_newa 8 123) := gs_newaI gw_88 (by decide +kernel : decode mi_82.2.1 121 = .ok (.newarray .int, 2)) rfl
theorem s_82_123 {K : gC} : gOk K g_Ms mi_82 123 (ga_putR 7 29 126) := gs_putR gcls_7 (by decide) (by decide) (fun _ => ⟨rfl, rfl⟩) rfl rfl rfl gw_685 (by decide +kernel : decode mi_82.2.1 123 = .ok (.putfield 58, 3)) rfl
theorem s_82_126 {K : gC} : gOk K g_Ms mi_82 126 (ga_aload 0 127) := gs_aload_n (by decide +kernel : decode mi_82.2.1 126 = .ok (.aload_n 0, 1)) rfl rfl
theorem s_82_127 {K : gC} : gOk K g_Ms mi_82 127 (ga_push (.int 4) 128) := gs_iconst (by decide +kernel : decode mi_82.2.1 127 = .ok (.iconst 4, 1)) (by decide) rfl
theorem s_82_128 {K : gC} : gOk K g_Ms mi_82 128 (ga_callV 7 86 1 131) := gs_callV gcls_7 (gce_X7_plain (by decide) (by decide)) gw_652 gw_654 gw_14 (by decide +kernel : decode mi_82.2.1 128 = .ok (.invokevirtual 61, 3)) rfl
theorem s_82_131 {K : gC} : gOk K g_Ms mi_82 131 (ga_vret) := gs_vret (by decide +kernel : decode mi_82.2.1 131 = .ok (.return_, 1)) rfl
theorem ok_82 {K : gC} : ∀ e ∈ t_82, gOk K g_Ms mi_82 e.1 e.2 := by
  unfold t_82
  simp only [List.forall_mem_cons, List.not_mem_nil, false_implies, implies_true, and_true]
  exact ⟨s_82_0, s_82_1, s_82_4, s_82_5, s_82_6, s_82_9, s_82_10, s_82_12, s_82_14, s_82_17, s_82_18, s_82_20, s_82_22, s_82_25, s_82_26, s_82_28, s_82_30, s_82_33, s_82_34, s_82_36, s_82_38, s_82_41, s_82_42, s_82_45, s_82_47, s_82_50, s_82_51, s_82_53, s_82_55, s_82_58, s_82_59, s_82_61, s_82_63, s_82_66, s_82_67, s_82_69, s_82_71, s_82_74, s_82_75, s_82_77, s_82_79, s_82_82, s_82_83, s_82_84, s_82_86, s_82_89, s_82_90, s_82_92, s_82_94, s_82_97, s_82_98, s_82_100, s_82_102, s_82_105, s_82_106, s_82_107, s_82_110, s_82_111, s_82_113, s_82_115, s_82_118, s_82_119, s_82_121, s_82_123, s_82_126, s_82_127, s_82_128, s_82_131⟩
theorem s_83_0 {K : gC} : gOk K g_Ms mi_83 0 (ga_iload 0 1) := gs_iload_n (by decide +kernel : decode mi_83.2.1 0 = .ok (.iload_n 0, 1)) rfl rfl
theorem s_83_1 {K : gC} : gOk K g_Ms mi_83 1 (ga_iload 1 2) := gs_iload_n (by decide +kernel : decode mi_83.2.1 1 = .ok (.iload_n 1, 1)) rfl rfl
theorem s_83_2 {K : gC} : gOk K g_Ms mi_83 2 (ga_cmp (fun x y => decide (x < y)) 14 5) := gs_cmp_lt (by decide +kernel : decode mi_83.2.1 2 = .ok (.if_icmp .lt 12, 3)) (by decide) rfl
theorem s_83_5 {K : gC} : gOk K g_Ms mi_83 5 (ga_iload 0 6) := gs_iload_n (by decide +kernel : decode mi_83.2.1 5 = .ok (.iload_n 0, 1)) rfl rfl
theorem s_83_6 {K : gC} : gOk K g_Ms mi_83 6 (ga_iload 2 7) := gs_iload_n (by decide +kernel : decode mi_83.2.1 6 = .ok (.iload_n 2, 1)) rfl rfl
theorem s_83_7 {K : gC} : gOk K g_Ms mi_83 7 (ga_cmp (fun x y => decide (y < x)) 14 10) := gs_cmp_gt (by decide +kernel : decode mi_83.2.1 7 = .ok (.if_icmp .gt 7, 3)) (by decide) rfl
theorem s_83_10 {K : gC} : gOk K g_Ms mi_83 10 (ga_push (.int 1) 11) := gs_iconst (by decide +kernel : decode mi_83.2.1 10 = .ok (.iconst 1, 1)) (by decide) rfl
theorem s_83_11 {K : gC} : gOk K g_Ms mi_83 11 (ga_goto 15) := gs_goto (by decide +kernel : decode mi_83.2.1 11 = .ok (.goto 4, 3)) (by decide)
theorem s_83_14 {K : gC} : gOk K g_Ms mi_83 14 (ga_push (.int 0) 15) := gs_iconst (by decide +kernel : decode mi_83.2.1 14 = .ok (.iconst 0, 1)) (by decide) rfl
theorem s_83_15 {K : gC} : gOk K g_Ms mi_83 15 (ga_zret) := gs_zret (by decide +kernel : decode mi_83.2.1 15 = .ok (.ireturn, 1)) rfl rfl rfl
theorem ok_83 {K : gC} : ∀ e ∈ t_83, gOk K g_Ms mi_83 e.1 e.2 := by
  unfold t_83
  simp only [List.forall_mem_cons, List.not_mem_nil, false_implies, implies_true, and_true]
  exact ⟨s_83_0, s_83_1, s_83_2, s_83_5, s_83_6, s_83_7, s_83_10, s_83_11, s_83_14, s_83_15⟩
theorem s_84_0 {K : gC} : gOk K g_Ms mi_84 0 (ga_iload 0 1) := gs_iload_n (by decide +kernel : decode mi_84.2.1 0 = .ok (.iload_n 0, 1)) rfl rfl
theorem s_84_1 {K : gC} : gOk K g_Ms mi_84 1 (ga_iload 1 2) := gs_iload_n (by decide +kernel : decode mi_84.2.1 1 = .ok (.iload_n 1, 1)) rfl rfl
theorem s_84_2 {K : gC} : gOk K g_Ms mi_84 2 (ga_bin (fun x y => x >>> (y &&& 31)) 3) := gs_ishr (by decide +kernel : decode mi_84.2.1 2 = .ok (.ishr, 1)) rfl
theorem s_84_3 {K : gC} : gOk K g_Ms mi_84 3 (ga_push (.int 1) 4) := gs_iconst (by decide +kernel : decode mi_84.2.1 3 = .ok (.iconst 1, 1)) (by decide) rfl
theorem s_84_4 {K : gC} : gOk K g_Ms mi_84 4 (ga_bin (fun x y => x &&& y) 5) := gs_iand (by decide +kernel : decode mi_84.2.1 4 = .ok (.iand, 1)) rfl
theorem s_84_5 {K : gC} : gOk K g_Ms mi_84 5 (ga_push (.int 1) 6) := gs_iconst (by decide +kernel : decode mi_84.2.1 5 = .ok (.iconst 1, 1)) (by decide) rfl
theorem s_84_6 {K : gC} : gOk K g_Ms mi_84 6 (ga_cmp (fun x y => decide (¬ x = y)) 13 9) := gs_cmp_ne (by decide +kernel : decode mi_84.2.1 6 = .ok (.if_icmp .ne 7, 3)) (by decide) rfl
theorem s_84_9 {K : gC} : gOk K g_Ms mi_84 9 (ga_push (.int 1) 10) := gs_iconst (by decide +kernel : decode mi_84.2.1 9 = .ok (.iconst 1, 1)) (by decide) rfl
theorem s_84_10 {K : gC} : gOk K g_Ms mi_84 10 (ga_goto 14) := gs_goto (by decide +kernel : decode mi_84.2.1 10 = .ok (.goto 4, 3)) (by decide)
theorem s_84_13 {K : gC} : gOk K g_Ms mi_84 13 (ga_push (.int 0) 14) := gs_iconst (by decide +kernel : decode mi_84.2.1 13 = .ok (.iconst 0, 1)) (by decide) rfl
theorem s_84_14 {K : gC} : gOk K g_Ms mi_84 14 (ga_zret) := gs_zret (by decide +kernel : decode mi_84.2.1 14 = .ok (.ireturn, 1)) rfl rfl rfl
theorem ok_84 {K : gC} : ∀ e ∈ t_84, gOk K g_Ms mi_84 e.1 e.2 := by
  unfold t_84
  simp only [List.forall_mem_cons, List.not_mem_nil, false_implies, implies_true, and_true]
  exact ⟨s_84_0, s_84_1, s_84_2, s_84_3, s_84_4, s_84_5, s_84_6, s_84_9, s_84_10, s_84_13, s_84_14⟩
theorem s_85_0 {K : gC} : gOk K g_Ms mi_85 0 (ga_iload 1 1) := gs_iload_n (by decide +kernel : decode mi_85.2.1 0 = .ok (.iload_n 1, 1)) rfl rfl
theorem s_85_1 {K : gC} : gOk K g_Ms mi_85 1 (ga_push (.int 0) 2) := gs_iconst (by decide +kernel : decode mi_85.2.1 1 = .ok (.iconst 0, 1)) (by decide) rfl
theorem s_85_2 {K : gC} : gOk K g_Ms mi_85 2 (ga_aload 0 3) := gs_aload_n (by decide +kernel : decode mi_85.2.1 2 = .ok (.aload_n 0, 1)) rfl rfl
theorem s_85_3 {K : gC} : gOk K g_Ms mi_85 3 (ga_getI 7 0 6) := gs_getI gcls_7 (by decide) (by decide) gw_656 (by decide +kernel : decode mi_85.2.1 3 = .ok (.getfield 7, 3)) rfl
theorem s_85_6 {K : gC} : gOk K g_Ms mi_85 6 (ga_push (.int 1) 7) := gs_iconst (by decide +kernel : decode mi_85.2.1 6 = .ok (.iconst 1, 1)) (by decide) rfl
theorem s_85_7 {K : gC} : gOk K g_Ms mi_85 7 (ga_bin (fun x y => x - y) 8) := gs_isub (by decide +kernel : decode mi_85.2.1 7 = .ok (.isub, 1)) rfl
theorem s_85_8 {K : gC} : gOk K g_Ms mi_85 8 (ga_call 83 3 11) := gs_callS (gce_X7_in (by decide) (by decide)) gw_751 gw_752 (by decide +kernel : decode mi_85.2.1 8 = .ok (.invokestatic 65, 3)) rfl
theorem s_85_11 {K : gC} : gOk K g_Ms mi_85 11 (ga_zret) := gs_zret (by decide +kernel : decode mi_85.2.1 11 = .ok (.ireturn, 1)) rfl rfl rfl
theorem ok_85 {K : gC} : ∀ e ∈ t_85, gOk K g_Ms mi_85 e.1 e.2 := by
  unfold t_85
  simp only [List.forall_mem_cons, List.not_mem_nil, false_implies, implies_true, and_true]
  exact ⟨s_85_0, s_85_1, s_85_2, s_85_3, s_85_6, s_85_7, s_85_8, s_85_11⟩
theorem s_86_0 {K : gC} : gOk K g_Ms mi_86 0 (ga_aload 0 1) := gs_aload_n (by decide +kernel : decode mi_86.2.1 0 = .ok (.aload_n 0, 1)) rfl rfl
theorem s_86_1 {K : gC} : gOk K g_Ms mi_86 1 (ga_iload 1 2) := gs_iload_n (by decide +kernel : decode mi_86.2.1 1 = .ok (.iload_n 1, 1)) rfl rfl
theorem s_86_2 {K : gC} : gOk K g_Ms mi_86 2 (ga_putI 7 0 5) := gs_putI gcls_7 (by decide) (by decide) rfl rfl gw_656 (by decide +kernel : decode mi_86.2.1 2 = .ok (.putfield 7, 3)) rfl
theorem s_86_5 {K : gC} : gOk K g_Ms mi_86 5 (ga_aload 0 6) := gs_aload_n (by decide +kernel : decode mi_86.2.1 5 = .ok (.aload_n 0, 1)) rfl rfl
theorem s_86_6 {K : gC} : gOk K g_Ms mi_86 6 (ga_push (.int 0) 7) := gs_iconst (by decide +kernel : decode mi_86.2.1 6 = .ok (.iconst 0, 1)) (by decide) rfl
theorem s_86_7 {K : gC} : gOk K g_Ms mi_86 7 (ga_putI 7 6 10) := gs_putI gcls_7 (by decide) (by decide) rfl rfl gw_662 (by decide +kernel : decode mi_86.2.1 7 = .ok (.putfield 69, 3)) rfl
theorem s_86_10 {K : gC} : gOk K g_Ms mi_86 10 (ga_push (.int 0) 11) := gs_iconst (by decide +kernel : decode mi_86.2.1 10 = .ok (.iconst 0, 1)) (by decide) rfl
theorem s_86_11 {K : gC} : gOk K g_Ms mi_86 11 (ga_istore 2 12) := gs_istore_n (by decide +kernel : decode mi_86.2.1 11 = .ok (.istore_n 2, 1)) rfl rfl
theorem s_86_12 {K : gC} : gOk K g_Ms mi_86 12 (ga_iload 2 13) := gs_iload_n (by decide +kernel : decode mi_86.2.1 12 = .ok (.iload_n 2, 1)) rfl rfl
theorem s_86_13 {K : gC} : gOk K g_Ms mi_86 13 (ga_push (.int 10) 15) := gs_bipush (by decide +kernel : decode mi_86.2.1 13 = .ok (.bipush 10, 2)) (by decide) rfl
theorem s_86_15 {K : gC} : gOk K g_Ms mi_86 15 (ga_cmp (fun x y => decide (y ≤ x)) 52 18) := gs_cmp_ge (by decide +kernel : decode mi_86.2.1 15 = .ok (.if_icmp .ge 37, 3)) (by decide) rfl
theorem s_86_18 {K : gC} : gOk K g_Ms mi_86 18 (ga_aload 0 19) := gs_aload_n (by decide +kernel : decode mi_86.2.1 18 = .ok (.aload_n 0, 1)) rfl rfl
theorem s_86_19 {K : gC} : gOk K g_Ms mi_86 19 (ga_getR 7 1 22) := gs_getR gcls_7 (by decide) (by decide) gw_657 (by decide +kernel : decode mi_86.2.1 19 = .ok (.getfield 13, 3)) rfl
theorem s_86_22 {K : gC} : gOk K g_Ms mi_86 22 (ga_iload 2 23) := gs_iload_n (by decide +kernel : decode mi_86.2.1 22 = .ok (.iload_n 2, 1)) rfl rfl
theorem s_86_23 {K : gC} : gOk K g_Ms mi_86 23 (ga_push (.int (-1)) 24) := gs_iconst (by decide +kernel : decode mi_86.2.1 23 = .ok (.iconst (-1), 1)) (by decide) rfl
theorem s_86_24 {K : gC} : gOk K g_Ms mi_86 24 (ga_iast 25) := gs_iast (by decide +kernel : decode mi_86.2.1 24 = .ok (.iastore, 1)) rfl
theorem s_86_25 {K : gC} : gOk K g_Ms mi_86 25 (ga_aload 0 26) := gs_aload_n (by decide +kernel : decode mi_86.2.1 25 = .ok (.aload_n 0, 1)) rfl rfl
theorem s_86_26 {K : gC} : gOk K g_Ms mi_86 26 (ga_getR 7 2 29) := gs_getR gcls_7 (by decide) (by decide) gw_658 (by decide +kernel : decode mi_86.2.1 26 = .ok (.getfield 17, 3)) rfl
theorem s_86_29 {K : gC} : gOk K g_Ms mi_86 29 (ga_iload 2 30) := gs_iload_n (by decide +kernel : decode mi_86.2.1 29 = .ok (.iload_n 2, 1)) rfl rfl
theorem s_86_30 {K : gC} : gOk K g_Ms mi_86 30 (ga_push (.int 0) 31) := gs_iconst (by decide +kernel : decode mi_86.2.1 30 = .ok (.iconst 0, 1)) (by decide) rfl
theorem s_86_31 {K : gC} : gOk K g_Ms mi_86 31 (ga_iast 32) := gs_iast (by decide +kernel : decode mi_86.2.1 31 = .ok (.iastore, 1)) rfl
theorem s_86_32 {K : gC} : gOk K g_Ms mi_86 32 (ga_aload 0 33) := gs_aload_n (by decide +kernel : decode mi_86.2.1 32 = .ok (.aload_n 0, 1)) rfl rfl
theorem s_86_33 {K : gC} : gOk K g_Ms mi_86 33 (ga_getR 7 3 36) := gs_getR gcls_7 (by decide) (by decide) gw_659 (by decide +kernel : decode mi_86.2.1 33 = .ok (.getfield 20, 3)) rfl
theorem s_86_36 {K : gC} : gOk K g_Ms mi_86 36 (ga_iload 2 37) := gs_iload_n (by decide +kernel : decode mi_86.2.1 36 = .ok (.iload_n 2, 1)) rfl rfl
theorem s_86_37 {K : gC} : gOk K g_Ms mi_86 37 (ga_push (.int 0) 38) := gs_iconst (by decide +kernel : decode mi_86.2.1 37 = .ok (.iconst 0, 1)) (by decide) rfl
theorem s_86_38 {K : gC} : gOk K g_Ms mi_86 38 (ga_iast 39) := gs_iast (by decide +kernel : decode mi_86.2.1 38 = .ok (.iastore, 1)) rfl
theorem s_86_39 {K : gC} : gOk K g_Ms mi_86 39 (ga_aload 0 40) := gs_aload_n (by decide +kernel : decode mi_86.2.1 39 = .ok (.aload_n 0, 1)) rfl rfl
theorem s_86_40 {K : gC} : gOk K g_Ms mi_86 40 (ga_getR 7 4 43) := gs_getR gcls_7 (by decide) (by decide) gw_660 (by decide +kernel : decode mi_86.2.1 40 = .ok (.getfield 23, 3)) rfl
theorem s_86_43 {K : gC} : gOk K g_Ms mi_86 43 (ga_iload 2 44) := gs_iload_n (by decide +kernel : decode mi_86.2.1 43 = .ok (.iload_n 2, 1)) rfl rfl
theorem s_86_44 {K : gC} : gOk K g_Ms mi_86 44 (ga_push (.int 1) 45) := gs_iconst (by decide +kernel : decode mi_86.2.1 44 = .ok (.iconst 1, 1)) (by decide) rfl
theorem s_86_45 {K : gC} : gOk K g_Ms mi_86 45 (ga_iast 46) := gs_iast (by decide +kernel : decode mi_86.2.1 45 = .ok (.iastore, 1)) rfl
theorem s_86_46 {K : gC} : gOk K g_Ms mi_86 46 (ga_iinc 2 1 49) := gs_iinc (by decide +kernel : decode mi_86.2.1 46 = .ok (.iinc 2 1, 3)) (by decide) rfl
theorem s_86_49 {K : gC} : gOk K g_Ms mi_86 49 (ga_goto 12) := gs_goto (by decide +kernel : decode mi_86.2.1 49 = .ok (.goto (-37), 3)) (by decide)
theorem s_86_52 {K : gC} : gOk K g_Ms mi_86 52 (ga_vret) := gs_vret (by decide +kernel : decode mi_86.2.1 52 = .ok (.return_, 1)) rfl
theorem ok_86 {K : gC} : ∀ e ∈ t_86, gOk K g_Ms mi_86 e.1 e.2 := by
  unfold t_86
  simp only [List.forall_mem_cons, List.not_mem_nil, false_implies, implies_true, and_true]
  exact ⟨s_86_0, s_86_1, s_86_2, s_86_5, s_86_6, s_86_7, s_86_10, s_86_11, s_86_12, s_86_13, s_86_15, s_86_18, s_86_19, s_86_22, s_86_23, s_86_24, s_86_25, s_86_26, s_86_29, s_86_30, s_86_31, s_86_32, s_86_33, s_86_36, s_86_37, s_86_38, s_86_39, s_86_40, s_86_43, s_86_44, s_86_45, s_86_46, s_86_49, s_86_52⟩
theorem s_87_0 {K : gC} : gOk K g_Ms mi_87 0 (ga_iload 3 1) := gs_iload_n (by decide +kernel : decode mi_87.2.1 0 = .ok (.iload_n 3, 1)) rfl rfl
theorem s_87_1 {K : gC} : gOk K g_Ms mi_87 1 (ga_push (.int 1) 2) := gs_iconst (by decide +kernel : decode mi_87.2.1 1 = .ok (.iconst 1, 1)) (by decide) rfl
theorem s_87_2 {K : gC} : gOk K g_Ms mi_87 2 (ga_push (.int 8) 4) := gs_bipush (by decide +kernel : decode mi_87.2.1 2 = .ok (.bipush 8, 2)) (by decide) rfl
theorem s_87_4 {K : gC} : gOk K g_Ms mi_87 4 (ga_call 83 3 7) := gs_callS (gce_X7_in (by decide) (by decide)) gw_751 gw_752 (by decide +kernel : decode mi_87.2.1 4 = .ok (.invokestatic 65, 3)) rfl
theorem s_87_7 {K : gC} : gOk K g_Ms mi_87 7 (ga_if (fun x => decide (¬ x = 0)) 13 10) := gs_if_ne (by decide +kernel : decode mi_87.2.1 7 = .ok (.ifCond .ne 6, 3)) (by decide) rfl
theorem s_87_10 {K : gC} : gOk K g_Ms mi_87 10 (ga_push (.int (-3)) 12) := gs_bipush (by decide +kernel : decode mi_87.2.1 10 = .ok (.bipush (-3), 2)) (by decide) rfl
theorem s_87_12 {K : gC} : gOk K g_Ms mi_87 12 (ga_iret) := gs_iret (by decide +kernel : decode mi_87.2.1 12 = .ok (.ireturn, 1)) rfl
theorem s_87_13 {K : gC} : gOk K g_Ms mi_87 13 (ga_aload 0 14) := gs_aload_n (by decide +kernel : decode mi_87.2.1 13 = .ok (.aload_n 0, 1)) rfl rfl
theorem s_87_14 {K : gC} : gOk K g_Ms mi_87 14 (ga_getI 7 7 17) := gs_getI gcls_7 (by decide) (by decide) gw_663 (by decide +kernel : decode mi_87.2.1 14 = .ok (.getfield 72, 3)) rfl
theorem s_87_17 {K : gC} : gOk K g_Ms mi_87 17 (ga_iload 3 18) := gs_iload_n (by decide +kernel : decode mi_87.2.1 17 = .ok (.iload_n 3, 1)) rfl rfl
theorem s_87_18 {K : gC} : gOk K g_Ms mi_87 18 (ga_bin (fun x y => x + y) 19) := gs_iadd (by decide +kernel : decode mi_87.2.1 18 = .ok (.iadd, 1)) rfl
theorem s_87_19 {K : gC} : gOk K g_Ms mi_87 19 (ga_push (.int 200) 22) := gs_sipush (by decide +kernel : decode mi_87.2.1 19 = .ok (.sipush 200, 3)) (by decide) rfl
theorem s_87_22 {K : gC} : gOk K g_Ms mi_87 22 (ga_cmp (fun x y => decide (x ≤ y)) 28 25) := gs_cmp_le (by decide +kernel : decode mi_87.2.1 22 = .ok (.if_icmp .le 6, 3)) (by decide) rfl
theorem s_87_25 {K : gC} : gOk K g_Ms mi_87 25 (ga_push (.int (-5)) 27) := gs_bipush (by decide +kernel : decode mi_87.2.1 25 = .ok (.bipush (-5), 2)) (by decide) rfl
theorem s_87_27 {K : gC} : gOk K g_Ms mi_87 27 (ga_iret) := gs_iret (by decide +kernel : decode mi_87.2.1 27 = .ok (.ireturn, 1)) rfl
theorem s_87_28 {K : gC} : gOk K g_Ms mi_87 28 (ga_push (.int 0) 29) := gs_iconst (by decide +kernel : decode mi_87.2.1 28 = .ok (.iconst 0, 1)) (by decide) rfl
theorem s_87_29 {K : gC} : gOk K g_Ms mi_87 29 (ga_istore 4 31) := gs_istore (by decide +kernel : decode mi_87.2.1 29 = .ok (.istore 4, 2)) rfl
theorem s_87_31 {K : gC} : gOk K g_Ms mi_87 31 (ga_iload 4 33) := gs_iload (by decide +kernel : decode mi_87.2.1 31 = .ok (.iload 4, 2)) rfl
theorem s_87_33 {K : gC} : gOk K g_Ms mi_87 33 (ga_iload 3 34) := gs_iload_n (by decide +kernel : decode mi_87.2.1 33 = .ok (.iload_n 3, 1)) rfl rfl
theorem s_87_34 {K : gC} : gOk K g_Ms mi_87 34 (ga_cmp (fun x y => decide (y ≤ x)) 67 37) := gs_cmp_ge (by decide +kernel : decode mi_87.2.1 34 = .ok (.if_icmp .ge 33, 3)) (by decide) rfl
theorem s_87_37 {K : gC} : gOk K g_Ms mi_87 37 (ga_aload 0 38) := gs_aload_n (by decide +kernel : decode mi_87.2.1 37 = .ok (.aload_n 0, 1)) rfl rfl
theorem s_87_38 {K : gC} : gOk K g_Ms mi_87 38 (ga_getR 7 8 41) := gs_getR gcls_7 (by decide) (by decide) gw_664 (by decide +kernel : decode mi_87.2.1 38 = .ok (.getfield 26, 3)) rfl
theorem s_87_41 {K : gC} : gOk K g_Ms mi_87 41 (ga_aload 0 42) := gs_aload_n (by decide +kernel : decode mi_87.2.1 41 = .ok (.aload_n 0, 1)) rfl rfl
theorem s_87_42 {K : gC} : gOk K g_Ms mi_87 42 (ga_getI 7 7 45) := gs_getI gcls_7 (by decide) (by decide) gw_663 (by decide +kernel : decode mi_87.2.1 42 = .ok (.getfield 72, 3)) rfl
theorem s_87_45 {K : gC} : gOk K g_Ms mi_87 45 (ga_iload 4 47) := gs_iload (by decide +kernel : decode mi_87.2.1 45 = .ok (.iload 4, 2)) rfl
theorem s_87_47 {K : gC} : gOk K g_Ms mi_87 47 (ga_bin (fun x y => x + y) 48) := gs_iadd (by decide +kernel : decode mi_87.2.1 47 = .ok (.iadd, 1)) rfl
theorem s_87_48 {K : gC} : gOk K g_Ms mi_87 48 (ga_lload 1 49) := gs_lload_n (by decide +kernel : decode mi_87.2.1 48 = .ok (.lload_n 1, 1)) rfl rfl
theorem s_87_49 {K : gC} : gOk K g_Ms mi_87 49 (ga_push (.int 8) 51) := gs_bipush (by decide +kernel : decode mi_87.2.1 49 = .ok (.bipush 8, 2)) (by decide) rfl
theorem s_87_51 {K : gC} : gOk K g_Ms mi_87 51 (ga_iload 4 53) := gs_iload (by decide +kernel : decode mi_87.2.1 51 = .ok (.iload 4, 2)) rfl
theorem s_87_53 {K : gC} : gOk K g_Ms mi_87 53 (ga_bin (fun x y => x * y) 54) := gs_imul (by decide +kernel : decode mi_87.2.1 53 = .ok (.imul, 1)) rfl
theorem s_87_54 {K : gC} : gOk K g_Ms mi_87 54 (ga_lsh (fun x y => x >>> (y.toInt64 &&& 63)) 55) := gs_lshr (by decide +kernel : decode mi_87.2.1 54 = .ok (.lshr, 1)) rfl
theorem s_87_55 {K : gC} : gOk K g_Ms mi_87 55 (ga_push (.long 255) 58) := gs_ldc2 (by decide +kernel : decode mi_87.2.1 55 = .ok (.ldc2_w 75, 3)) gw_754 rfl
theorem s_87_58 {K : gC} : gOk K g_Ms mi_87 58 (ga_lbin (fun x y => x &&& y) 59) := gs_land (by decide +kernel : decode mi_87.2.1 58 = .ok (.land, 1)) rfl
theorem s_87_59 {K : gC} : gOk K g_Ms mi_87 59 (ga_l2i 60) := gs_l2i (by decide +kernel : decode mi_87.2.1 59 = .ok (.l2i, 1)) rfl
theorem s_87_60 {K : gC} : gOk K g_Ms mi_87 60 (ga_iast 61) := gs_iast (by decide +kernel : decode mi_87.2.1 60 = .ok (.iastore, 1)) rfl
theorem s_87_61 {K : gC} : gOk K g_Ms mi_87 61 (ga_iinc 4 1 64) := gs_iinc (by decide +kernel : decode mi_87.2.1 61 = .ok (.iinc 4 1, 3)) (by decide) rfl
theorem s_87_64 {K : gC} : gOk K g_Ms mi_87 64 (ga_goto 31) := gs_goto (by decide +kernel : decode mi_87.2.1 64 = .ok (.goto (-33), 3)) (by decide)
theorem s_87_67 {K : gC} : gOk K g_Ms mi_87 67 (ga_aload 0 68) := gs_aload_n (by decide +kernel : decode mi_87.2.1 67 = .ok (.aload_n 0, 1)) rfl rfl
theorem s_87_68 {K : gC} : gOk K g_Ms mi_87 68 (ga_dup 69) := gs_dup (by decide +kernel : decode mi_87.2.1 68 = .ok (.dup, 1)) rfl
theorem s_87_69 {K : gC} : gOk K g_Ms mi_87 69 (ga_getI 7 7 72) := gs_getI gcls_7 (by decide) (by decide) gw_663 (by decide +kernel : decode mi_87.2.1 69 = .ok (.getfield 72, 3)) rfl
theorem s_87_72 {K : gC} : gOk K g_Ms mi_87 72 (ga_iload 3 73) := gs_iload_n (by decide +kernel : decode mi_87.2.1 72 = .ok (.iload_n 3, 1)) rfl rfl
theorem s_87_73 {K : gC} : gOk K g_Ms mi_87 73 (ga_bin (fun x y => x + y) 74) := gs_iadd (by decide +kernel : decode mi_87.2.1 73 = .ok (.iadd, 1)) rfl
theorem s_87_74 {K : gC} : gOk K g_Ms mi_87 74 (ga_putI 7 7 77) := gs_putI gcls_7 (by decide) (by decide) rfl rfl gw_663 (by decide +kernel : decode mi_87.2.1 74 = .ok (.putfield 72, 3)) rfl
theorem s_87_77 {K : gC} : gOk K g_Ms mi_87 77 (ga_aload 0 78) := gs_aload_n (by decide +kernel : decode mi_87.2.1 77 = .ok (.aload_n 0, 1)) rfl rfl
theorem s_87_78 {K : gC} : gOk K g_Ms mi_87 78 (ga_getI 7 7 81) := gs_getI gcls_7 (by decide) (by decide) gw_663 (by decide +kernel : decode mi_87.2.1 78 = .ok (.getfield 72, 3)) rfl
theorem s_87_81 {K : gC} : gOk K g_Ms mi_87 81 (ga_iret) := gs_iret (by decide +kernel : decode mi_87.2.1 81 = .ok (.ireturn, 1)) rfl
theorem ok_87 {K : gC} : ∀ e ∈ t_87, gOk K g_Ms mi_87 e.1 e.2 := by
  unfold t_87
  simp only [List.forall_mem_cons, List.not_mem_nil, false_implies, implies_true, and_true]
  exact ⟨s_87_0, s_87_1, s_87_2, s_87_4, s_87_7, s_87_10, s_87_12, s_87_13, s_87_14, s_87_17, s_87_18, s_87_19, s_87_22, s_87_25, s_87_27, s_87_28, s_87_29, s_87_31, s_87_33, s_87_34, s_87_37, s_87_38, s_87_41, s_87_42, s_87_45, s_87_47, s_87_48, s_87_49, s_87_51, s_87_53, s_87_54, s_87_55, s_87_58, s_87_59, s_87_60, s_87_61, s_87_64, s_87_67, s_87_68, s_87_69, s_87_72, s_87_73, s_87_74, s_87_77, s_87_78, s_87_81⟩
theorem s_88_0 {K : gC} : gOk K g_Ms mi_88 0 (ga_aload 0 1) := gs_aload_n (by decide +kernel : decode mi_88.2.1 0 = .ok (.aload_n 0, 1)) rfl rfl
theorem s_88_1 {K : gC} : gOk K g_Ms mi_88 1 (ga_getI 7 7 4) := gs_getI gcls_7 (by decide) (by decide) gw_663 (by decide +kernel : decode mi_88.2.1 1 = .ok (.getfield 72, 3)) rfl
theorem s_88_4 {K : gC} : gOk K g_Ms mi_88 4 (ga_istore 1 5) := gs_istore_n (by decide +kernel : decode mi_88.2.1 4 = .ok (.istore_n 1, 1)) rfl rfl
theorem s_88_5 {K : gC} : gOk K g_Ms mi_88 5 (ga_aload 0 6) := gs_aload_n (by decide +kernel : decode mi_88.2.1 5 = .ok (.aload_n 0, 1)) rfl rfl
theorem s_88_6 {K : gC} : gOk K g_Ms mi_88 6 (ga_push (.int 0) 7) := gs_iconst (by decide +kernel : decode mi_88.2.1 6 = .ok (.iconst 0, 1)) (by decide) rfl
theorem s_88_7 {K : gC} : gOk K g_Ms mi_88 7 (ga_putI 7 7 10) := gs_putI gcls_7 (by decide) (by decide) rfl rfl gw_663 (by decide +kernel : decode mi_88.2.1 7 = .ok (.putfield 72, 3)) rfl
theorem s_88_10 {K : gC} : gOk K g_Ms mi_88 10 (ga_iload 1 11) := gs_iload_n (by decide +kernel : decode mi_88.2.1 10 = .ok (.iload_n 1, 1)) rfl rfl
theorem s_88_11 {K : gC} : gOk K g_Ms mi_88 11 (ga_iret) := gs_iret (by decide +kernel : decode mi_88.2.1 11 = .ok (.ireturn, 1)) rfl
theorem ok_88 {K : gC} : ∀ e ∈ t_88, gOk K g_Ms mi_88 e.1 e.2 := by
  unfold t_88
  simp only [List.forall_mem_cons, List.not_mem_nil, false_implies, implies_true, and_true]
  exact ⟨s_88_0, s_88_1, s_88_4, s_88_5, s_88_6, s_88_7, s_88_10, s_88_11⟩
theorem s_89_0 {K : gC} : gOk K g_Ms mi_89 0 (ga_aload 0 1) := gs_aload_n (by decide +kernel : decode mi_89.2.1 0 = .ok (.aload_n 0, 1)) rfl rfl
theorem s_89_1 {K : gC} : gOk K g_Ms mi_89 1 (ga_getI 7 9 4) := gs_getI gcls_7 (by decide) (by decide) gw_665 (by decide +kernel : decode mi_89.2.1 1 = .ok (.getfield 77, 3)) rfl
theorem s_89_4 {K : gC} : gOk K g_Ms mi_89 4 (ga_aload 0 5) := gs_aload_n (by decide +kernel : decode mi_89.2.1 4 = .ok (.aload_n 0, 1)) rfl rfl
theorem s_89_5 {K : gC} : gOk K g_Ms mi_89 5 (ga_getI 7 7 8) := gs_getI gcls_7 (by decide) (by decide) gw_663 (by decide +kernel : decode mi_89.2.1 5 = .ok (.getfield 72, 3)) rfl
theorem s_89_8 {K : gC} : gOk K g_Ms mi_89 8 (ga_cmp (fun x y => decide (y ≤ x)) 38 11) := gs_cmp_ge (by decide +kernel : decode mi_89.2.1 8 = .ok (.if_icmp .ge 30, 3)) (by decide) rfl
theorem s_89_11 {K : gC} : gOk K g_Ms mi_89 11 (ga_aload 0 12) := gs_aload_n (by decide +kernel : decode mi_89.2.1 11 = .ok (.aload_n 0, 1)) rfl rfl
theorem s_89_12 {K : gC} : gOk K g_Ms mi_89 12 (ga_getR 7 8 15) := gs_getR gcls_7 (by decide) (by decide) gw_664 (by decide +kernel : decode mi_89.2.1 12 = .ok (.getfield 26, 3)) rfl
theorem s_89_15 {K : gC} : gOk K g_Ms mi_89 15 (ga_aload 0 16) := gs_aload_n (by decide +kernel : decode mi_89.2.1 15 = .ok (.aload_n 0, 1)) rfl rfl
theorem s_89_16 {K : gC} : gOk K g_Ms mi_89 16 (ga_getI 7 9 19) := gs_getI gcls_7 (by decide) (by decide) gw_665 (by decide +kernel : decode mi_89.2.1 16 = .ok (.getfield 77, 3)) rfl
theorem s_89_19 {K : gC} : gOk K g_Ms mi_89 19 (ga_iald 20) := gs_iald (by decide +kernel : decode mi_89.2.1 19 = .ok (.iaload, 1)) rfl
theorem s_89_20 {K : gC} : gOk K g_Ms mi_89 20 (ga_push (.int 32) 22) := gs_bipush (by decide +kernel : decode mi_89.2.1 20 = .ok (.bipush 32, 2)) (by decide) rfl
theorem s_89_22 {K : gC} : gOk K g_Ms mi_89 22 (ga_cmp (fun x y => decide (¬ x = y)) 38 25) := gs_cmp_ne (by decide +kernel : decode mi_89.2.1 22 = .ok (.if_icmp .ne 16, 3)) (by decide) rfl
theorem s_89_25 {K : gC} : gOk K g_Ms mi_89 25 (ga_aload 0 26) := gs_aload_n (by decide +kernel : decode mi_89.2.1 25 = .ok (.aload_n 0, 1)) rfl rfl
theorem s_89_26 {K : gC} : gOk K g_Ms mi_89 26 (ga_dup 27) := gs_dup (by decide +kernel : decode mi_89.2.1 26 = .ok (.dup, 1)) rfl
theorem s_89_27 {K : gC} : gOk K g_Ms mi_89 27 (ga_getI 7 9 30) := gs_getI gcls_7 (by decide) (by decide) gw_665 (by decide +kernel : decode mi_89.2.1 27 = .ok (.getfield 77, 3)) rfl
theorem s_89_30 {K : gC} : gOk K g_Ms mi_89 30 (ga_push (.int 1) 31) := gs_iconst (by decide +kernel : decode mi_89.2.1 30 = .ok (.iconst 1, 1)) (by decide) rfl
theorem s_89_31 {K : gC} : gOk K g_Ms mi_89 31 (ga_bin (fun x y => x + y) 32) := gs_iadd (by decide +kernel : decode mi_89.2.1 31 = .ok (.iadd, 1)) rfl
theorem s_89_32 {K : gC} : gOk K g_Ms mi_89 32 (ga_putI 7 9 35) := gs_putI gcls_7 (by decide) (by decide) rfl rfl gw_665 (by decide +kernel : decode mi_89.2.1 32 = .ok (.putfield 77, 3)) rfl
theorem s_89_35 {K : gC} : gOk K g_Ms mi_89 35 (ga_goto 0) := gs_goto (by decide +kernel : decode mi_89.2.1 35 = .ok (.goto (-35), 3)) (by decide)
theorem s_89_38 {K : gC} : gOk K g_Ms mi_89 38 (ga_aload 0 39) := gs_aload_n (by decide +kernel : decode mi_89.2.1 38 = .ok (.aload_n 0, 1)) rfl rfl
theorem s_89_39 {K : gC} : gOk K g_Ms mi_89 39 (ga_aload 0 40) := gs_aload_n (by decide +kernel : decode mi_89.2.1 39 = .ok (.aload_n 0, 1)) rfl rfl
theorem s_89_40 {K : gC} : gOk K g_Ms mi_89 40 (ga_getI 7 9 43) := gs_getI gcls_7 (by decide) (by decide) gw_665 (by decide +kernel : decode mi_89.2.1 40 = .ok (.getfield 77, 3)) rfl
theorem s_89_43 {K : gC} : gOk K g_Ms mi_89 43 (ga_putI 7 10 46) := gs_putI gcls_7 (by decide) (by decide) rfl rfl gw_666 (by decide +kernel : decode mi_89.2.1 43 = .ok (.putfield 80, 3)) rfl
theorem s_89_46 {K : gC} : gOk K g_Ms mi_89 46 (ga_aload 0 47) := gs_aload_n (by decide +kernel : decode mi_89.2.1 46 = .ok (.aload_n 0, 1)) rfl rfl
theorem s_89_47 {K : gC} : gOk K g_Ms mi_89 47 (ga_push (.int 0) 48) := gs_iconst (by decide +kernel : decode mi_89.2.1 47 = .ok (.iconst 0, 1)) (by decide) rfl
theorem s_89_48 {K : gC} : gOk K g_Ms mi_89 48 (ga_putI 7 12 51) := gs_putI gcls_7 (by decide) (by decide) rfl rfl gw_668 (by decide +kernel : decode mi_89.2.1 48 = .ok (.putfield 83, 3)) rfl
theorem s_89_51 {K : gC} : gOk K g_Ms mi_89 51 (ga_aload 0 52) := gs_aload_n (by decide +kernel : decode mi_89.2.1 51 = .ok (.aload_n 0, 1)) rfl rfl
theorem s_89_52 {K : gC} : gOk K g_Ms mi_89 52 (ga_push (.int 0) 53) := gs_iconst (by decide +kernel : decode mi_89.2.1 52 = .ok (.iconst 0, 1)) (by decide) rfl
theorem s_89_53 {K : gC} : gOk K g_Ms mi_89 53 (ga_putI 7 13 56) := gs_putI gcls_7 (by decide) (by decide) rfl rfl gw_669 (by decide +kernel : decode mi_89.2.1 53 = .ok (.putfield 86, 3)) rfl
theorem s_89_56 {K : gC} : gOk K g_Ms mi_89 56 (ga_aload 0 57) := gs_aload_n (by decide +kernel : decode mi_89.2.1 56 = .ok (.aload_n 0, 1)) rfl rfl
theorem s_89_57 {K : gC} : gOk K g_Ms mi_89 57 (ga_getI 7 9 60) := gs_getI gcls_7 (by decide) (by decide) gw_665 (by decide +kernel : decode mi_89.2.1 57 = .ok (.getfield 77, 3)) rfl
theorem s_89_60 {K : gC} : gOk K g_Ms mi_89 60 (ga_aload 0 61) := gs_aload_n (by decide +kernel : decode mi_89.2.1 60 = .ok (.aload_n 0, 1)) rfl rfl
theorem s_89_61 {K : gC} : gOk K g_Ms mi_89 61 (ga_getI 7 7 64) := gs_getI gcls_7 (by decide) (by decide) gw_663 (by decide +kernel : decode mi_89.2.1 61 = .ok (.getfield 72, 3)) rfl
theorem s_89_64 {K : gC} : gOk K g_Ms mi_89 64 (ga_cmp (fun x y => decide (¬ x = y)) 77 67) := gs_cmp_ne (by decide +kernel : decode mi_89.2.1 64 = .ok (.if_icmp .ne 13, 3)) (by decide) rfl
theorem s_89_67 {K : gC} : gOk K g_Ms mi_89 67 (ga_aload 0 68) := gs_aload_n (by decide +kernel : decode mi_89.2.1 67 = .ok (.aload_n 0, 1)) rfl rfl
theorem s_89_68 {K : gC} : gOk K g_Ms mi_89 68 (ga_push (.long (-2)) 71) := gs_ldc2 (by decide +kernel : decode mi_89.2.1 68 = .ok (.ldc2_w 89, 3)) gw_775 rfl
theorem s_89_71 {K : gC} : gOk K g_Ms mi_89 71 (ga_putL 7 11 74) := gs_putL gcls_7 (by decide) (by decide) rfl rfl gw_667 (by decide +kernel : decode mi_89.2.1 71 = .ok (.putfield 91, 3)) rfl
theorem s_89_74 {K : gC} : gOk K g_Ms mi_89 74 (ga_goto 394) := gs_goto (by decide +kernel : decode mi_89.2.1 74 = .ok (.goto 320, 3)) (by decide)
theorem s_89_77 {K : gC} : gOk K g_Ms mi_89 77 (ga_aload 0 78) := gs_aload_n (by decide +kernel : decode mi_89.2.1 77 = .ok (.aload_n 0, 1)) rfl rfl
theorem s_89_78 {K : gC} : gOk K g_Ms mi_89 78 (ga_getR 7 8 81) := gs_getR gcls_7 (by decide) (by decide) gw_664 (by decide +kernel : decode mi_89.2.1 78 = .ok (.getfield 26, 3)) rfl
theorem s_89_81 {K : gC} : gOk K g_Ms mi_89 81 (ga_aload 0 82) := gs_aload_n (by decide +kernel : decode mi_89.2.1 81 = .ok (.aload_n 0, 1)) rfl rfl
theorem s_89_82 {K : gC} : gOk K g_Ms mi_89 82 (ga_getI 7 9 85) := gs_getI gcls_7 (by decide) (by decide) gw_665 (by decide +kernel : decode mi_89.2.1 82 = .ok (.getfield 77, 3)) rfl
theorem s_89_85 {K : gC} : gOk K g_Ms mi_89 85 (ga_iald 86) := gs_iald (by decide +kernel : decode mi_89.2.1 85 = .ok (.iaload, 1)) rfl
theorem s_89_86 {K : gC} : gOk K g_Ms mi_89 86 (ga_push (.int 97) 88) := gs_bipush (by decide +kernel : decode mi_89.2.1 86 = .ok (.bipush 97, 2)) (by decide) rfl
theorem s_89_88 {K : gC} : gOk K g_Ms mi_89 88 (ga_push (.int 122) 90) := gs_bipush (by decide +kernel : decode mi_89.2.1 88 = .ok (.bipush 122, 2)) (by decide) rfl
theorem s_89_90 {K : gC} : gOk K g_Ms mi_89 90 (ga_call 83 3 93) := gs_callS (gce_X7_in (by decide) (by decide)) gw_751 gw_752 (by decide +kernel : decode mi_89.2.1 90 = .ok (.invokestatic 65, 3)) rfl
theorem s_89_93 {K : gC} : gOk K g_Ms mi_89 93 (ga_if (fun x => decide (x = 0)) 222 96) := gs_if_eq (by decide +kernel : decode mi_89.2.1 93 = .ok (.ifCond .eq 129, 3)) (by decide) rfl
theorem s_89_96 {K : gC} : gOk K g_Ms mi_89 96 (ga_aload 0 97) := gs_aload_n (by decide +kernel : decode mi_89.2.1 96 = .ok (.aload_n 0, 1)) rfl rfl
theorem s_89_97 {K : gC} : gOk K g_Ms mi_89 97 (ga_push (.long 0) 98) := gs_lconst (by decide +kernel : decode mi_89.2.1 97 = .ok (.lconst 0, 1)) (by decide) rfl
theorem s_89_98 {K : gC} : gOk K g_Ms mi_89 98 (ga_putL 7 11 101) := gs_putL gcls_7 (by decide) (by decide) rfl rfl gw_667 (by decide +kernel : decode mi_89.2.1 98 = .ok (.putfield 91, 3)) rfl
theorem s_89_101 {K : gC} : gOk K g_Ms mi_89 101 (ga_aload 0 102) := gs_aload_n (by decide +kernel : decode mi_89.2.1 101 = .ok (.aload_n 0, 1)) rfl rfl
theorem s_89_102 {K : gC} : gOk K g_Ms mi_89 102 (ga_getI 7 9 105) := gs_getI gcls_7 (by decide) (by decide) gw_665 (by decide +kernel : decode mi_89.2.1 102 = .ok (.getfield 77, 3)) rfl
theorem s_89_105 {K : gC} : gOk K g_Ms mi_89 105 (ga_aload 0 106) := gs_aload_n (by decide +kernel : decode mi_89.2.1 105 = .ok (.aload_n 0, 1)) rfl rfl
theorem s_89_106 {K : gC} : gOk K g_Ms mi_89 106 (ga_getI 7 7 109) := gs_getI gcls_7 (by decide) (by decide) gw_663 (by decide +kernel : decode mi_89.2.1 106 = .ok (.getfield 72, 3)) rfl
theorem s_89_109 {K : gC} : gOk K g_Ms mi_89 109 (ga_cmp (fun x y => decide (y ≤ x)) 191 112) := gs_cmp_ge (by decide +kernel : decode mi_89.2.1 109 = .ok (.if_icmp .ge 82, 3)) (by decide) rfl
theorem s_89_112 {K : gC} : gOk K g_Ms mi_89 112 (ga_aload 0 113) := gs_aload_n (by decide +kernel : decode mi_89.2.1 112 = .ok (.aload_n 0, 1)) rfl rfl
theorem s_89_113 {K : gC} : gOk K g_Ms mi_89 113 (ga_getR 7 8 116) := gs_getR gcls_7 (by decide) (by decide) gw_664 (by decide +kernel : decode mi_89.2.1 113 = .ok (.getfield 26, 3)) rfl
theorem s_89_116 {K : gC} : gOk K g_Ms mi_89 116 (ga_aload 0 117) := gs_aload_n (by decide +kernel : decode mi_89.2.1 116 = .ok (.aload_n 0, 1)) rfl rfl
theorem s_89_117 {K : gC} : gOk K g_Ms mi_89 117 (ga_getI 7 9 120) := gs_getI gcls_7 (by decide) (by decide) gw_665 (by decide +kernel : decode mi_89.2.1 117 = .ok (.getfield 77, 3)) rfl
theorem s_89_120 {K : gC} : gOk K g_Ms mi_89 120 (ga_iald 121) := gs_iald (by decide +kernel : decode mi_89.2.1 120 = .ok (.iaload, 1)) rfl
theorem s_89_121 {K : gC} : gOk K g_Ms mi_89 121 (ga_push (.int 97) 123) := gs_bipush (by decide +kernel : decode mi_89.2.1 121 = .ok (.bipush 97, 2)) (by decide) rfl
theorem s_89_123 {K : gC} : gOk K g_Ms mi_89 123 (ga_push (.int 122) 125) := gs_bipush (by decide +kernel : decode mi_89.2.1 123 = .ok (.bipush 122, 2)) (by decide) rfl
theorem s_89_125 {K : gC} : gOk K g_Ms mi_89 125 (ga_call 83 3 128) := gs_callS (gce_X7_in (by decide) (by decide)) gw_751 gw_752 (by decide +kernel : decode mi_89.2.1 125 = .ok (.invokestatic 65, 3)) rfl
theorem s_89_128 {K : gC} : gOk K g_Ms mi_89 128 (ga_if (fun x => decide (x = 0)) 191 131) := gs_if_eq (by decide +kernel : decode mi_89.2.1 128 = .ok (.ifCond .eq 63, 3)) (by decide) rfl
theorem s_89_131 {K : gC} : gOk K g_Ms mi_89 131 (ga_aload 0 132) := gs_aload_n (by decide +kernel : decode mi_89.2.1 131 = .ok (.aload_n 0, 1)) rfl rfl
theorem s_89_132 {K : gC} : gOk K g_Ms mi_89 132 (ga_aload 0 133) := gs_aload_n (by decide +kernel : decode mi_89.2.1 132 = .ok (.aload_n 0, 1)) rfl rfl
theorem s_89_133 {K : gC} : gOk K g_Ms mi_89 133 (ga_getI 7 9 136) := gs_getI gcls_7 (by decide) (by decide) gw_665 (by decide +kernel : decode mi_89.2.1 133 = .ok (.getfield 77, 3)) rfl
theorem s_89_136 {K : gC} : gOk K g_Ms mi_89 136 (ga_aload 0 137) := gs_aload_n (by decide +kernel : decode mi_89.2.1 136 = .ok (.aload_n 0, 1)) rfl rfl
theorem s_89_137 {K : gC} : gOk K g_Ms mi_89 137 (ga_getI 7 10 140) := gs_getI gcls_7 (by decide) (by decide) gw_666 (by decide +kernel : decode mi_89.2.1 137 = .ok (.getfield 80, 3)) rfl
theorem s_89_140 {K : gC} : gOk K g_Ms mi_89 140 (ga_bin (fun x y => x - y) 141) := gs_isub (by decide +kernel : decode mi_89.2.1 140 = .ok (.isub, 1)) rfl
theorem s_89_141 {K : gC} : gOk K g_Ms mi_89 141 (ga_push (.int 9) 143) := gs_bipush (by decide +kernel : decode mi_89.2.1 141 = .ok (.bipush 9, 2)) (by decide) rfl
theorem s_89_143 {K : gC} : gOk K g_Ms mi_89 143 (ga_cmp (fun x y => decide (y ≤ x)) 172 146) := gs_cmp_ge (by decide +kernel : decode mi_89.2.1 143 = .ok (.if_icmp .ge 29, 3)) (by decide) rfl
theorem s_89_146 {K : gC} : gOk K g_Ms mi_89 146 (ga_push (.long 27) 149) := gs_ldc2 (by decide +kernel : decode mi_89.2.1 146 = .ok (.ldc2_w 95, 3)) gw_776 rfl
theorem s_89_149 {K : gC} : gOk K g_Ms mi_89 149 (ga_aload 0 150) := gs_aload_n (by decide +kernel : decode mi_89.2.1 149 = .ok (.aload_n 0, 1)) rfl rfl
theorem s_89_150 {K : gC} : gOk K g_Ms mi_89 150 (ga_getL 7 11 153) := gs_getL gcls_7 (by decide) (by decide) gw_667 (by decide +kernel : decode mi_89.2.1 150 = .ok (.getfield 91, 3)) rfl
theorem s_89_153 {K : gC} : gOk K g_Ms mi_89 153 (ga_lbin (fun x y => x * y) 154) := gs_lmul (by decide +kernel : decode mi_89.2.1 153 = .ok (.lmul, 1)) rfl
theorem s_89_154 {K : gC} : gOk K g_Ms mi_89 154 (ga_aload 0 155) := gs_aload_n (by decide +kernel : decode mi_89.2.1 154 = .ok (.aload_n 0, 1)) rfl rfl
theorem s_89_155 {K : gC} : gOk K g_Ms mi_89 155 (ga_getR 7 8 158) := gs_getR gcls_7 (by decide) (by decide) gw_664 (by decide +kernel : decode mi_89.2.1 155 = .ok (.getfield 26, 3)) rfl
theorem s_89_158 {K : gC} : gOk K g_Ms mi_89 158 (ga_aload 0 159) := gs_aload_n (by decide +kernel : decode mi_89.2.1 158 = .ok (.aload_n 0, 1)) rfl rfl
theorem s_89_159 {K : gC} : gOk K g_Ms mi_89 159 (ga_getI 7 9 162) := gs_getI gcls_7 (by decide) (by decide) gw_665 (by decide +kernel : decode mi_89.2.1 159 = .ok (.getfield 77, 3)) rfl
theorem s_89_162 {K : gC} : gOk K g_Ms mi_89 162 (ga_iald 163) := gs_iald (by decide +kernel : decode mi_89.2.1 162 = .ok (.iaload, 1)) rfl
theorem s_89_163 {K : gC} : gOk K g_Ms mi_89 163 (ga_i2l 164) := gs_i2l (by decide +kernel : decode mi_89.2.1 163 = .ok (.i2l, 1)) rfl
theorem s_89_164 {K : gC} : gOk K g_Ms mi_89 164 (ga_lbin (fun x y => x + y) 165) := gs_ladd (by decide +kernel : decode mi_89.2.1 164 = .ok (.ladd, 1)) rfl
theorem s_89_165 {K : gC} : gOk K g_Ms mi_89 165 (ga_push (.long 96) 168) := gs_ldc2 (by decide +kernel : decode mi_89.2.1 165 = .ok (.ldc2_w 97, 3)) gw_777 rfl
theorem s_89_168 {K : gC} : gOk K g_Ms mi_89 168 (ga_lbin (fun x y => x - y) 169) := gs_lsub (by decide +kernel : decode mi_89.2.1 168 = .ok (.lsub, 1)) rfl
theorem s_89_169 {K : gC} : gOk K g_Ms mi_89 169 (ga_goto 175) := gs_goto (by decide +kernel : decode mi_89.2.1 169 = .ok (.goto 6, 3)) (by decide)
theorem s_89_172 {K : gC} : gOk K g_Ms mi_89 172 (ga_push (.long (-4)) 175) := gs_ldc2 (by decide +kernel : decode mi_89.2.1 172 = .ok (.ldc2_w 99, 3)) gw_778 rfl
theorem s_89_175 {K : gC} : gOk K g_Ms mi_89 175 (ga_putL 7 11 178) := gs_putL gcls_7 (by decide) (by decide) rfl rfl gw_667 (by decide +kernel : decode mi_89.2.1 175 = .ok (.putfield 91, 3)) rfl
theorem s_89_178 {K : gC} : gOk K g_Ms mi_89 178 (ga_aload 0 179) := gs_aload_n (by decide +kernel : decode mi_89.2.1 178 = .ok (.aload_n 0, 1)) rfl rfl
theorem s_89_179 {K : gC} : gOk K g_Ms mi_89 179 (ga_dup 180) := gs_dup (by decide +kernel : decode mi_89.2.1 179 = .ok (.dup, 1)) rfl
theorem s_89_180 {K : gC} : gOk K g_Ms mi_89 180 (ga_getI 7 9 183) := gs_getI gcls_7 (by decide) (by decide) gw_665 (by decide +kernel : decode mi_89.2.1 180 = .ok (.getfield 77, 3)) rfl
theorem s_89_183 {K : gC} : gOk K g_Ms mi_89 183 (ga_push (.int 1) 184) := gs_iconst (by decide +kernel : decode mi_89.2.1 183 = .ok (.iconst 1, 1)) (by decide) rfl
theorem s_89_184 {K : gC} : gOk K g_Ms mi_89 184 (ga_bin (fun x y => x + y) 185) := gs_iadd (by decide +kernel : decode mi_89.2.1 184 = .ok (.iadd, 1)) rfl
theorem s_89_185 {K : gC} : gOk K g_Ms mi_89 185 (ga_putI 7 9 188) := gs_putI gcls_7 (by decide) (by decide) rfl rfl gw_665 (by decide +kernel : decode mi_89.2.1 185 = .ok (.putfield 77, 3)) rfl
theorem s_89_188 {K : gC} : gOk K g_Ms mi_89 188 (ga_goto 101) := gs_goto (by decide +kernel : decode mi_89.2.1 188 = .ok (.goto (-87), 3)) (by decide)
theorem s_89_191 {K : gC} : gOk K g_Ms mi_89 191 (ga_aload 0 192) := gs_aload_n (by decide +kernel : decode mi_89.2.1 191 = .ok (.aload_n 0, 1)) rfl rfl
theorem s_89_192 {K : gC} : gOk K g_Ms mi_89 192 (ga_aload 0 193) := gs_aload_n (by decide +kernel : decode mi_89.2.1 192 = .ok (.aload_n 0, 1)) rfl rfl
theorem s_89_193 {K : gC} : gOk K g_Ms mi_89 193 (ga_getI 7 9 196) := gs_getI gcls_7 (by decide) (by decide) gw_665 (by decide +kernel : decode mi_89.2.1 193 = .ok (.getfield 77, 3)) rfl
theorem s_89_196 {K : gC} : gOk K g_Ms mi_89 196 (ga_aload 0 197) := gs_aload_n (by decide +kernel : decode mi_89.2.1 196 = .ok (.aload_n 0, 1)) rfl rfl
theorem s_89_197 {K : gC} : gOk K g_Ms mi_89 197 (ga_getI 7 10 200) := gs_getI gcls_7 (by decide) (by decide) gw_666 (by decide +kernel : decode mi_89.2.1 197 = .ok (.getfield 80, 3)) rfl
theorem s_89_200 {K : gC} : gOk K g_Ms mi_89 200 (ga_bin (fun x y => x - y) 201) := gs_isub (by decide +kernel : decode mi_89.2.1 200 = .ok (.isub, 1)) rfl
theorem s_89_201 {K : gC} : gOk K g_Ms mi_89 201 (ga_push (.int 9) 203) := gs_bipush (by decide +kernel : decode mi_89.2.1 201 = .ok (.bipush 9, 2)) (by decide) rfl
theorem s_89_203 {K : gC} : gOk K g_Ms mi_89 203 (ga_cmp (fun x y => decide (x ≤ y)) 212 206) := gs_cmp_le (by decide +kernel : decode mi_89.2.1 203 = .ok (.if_icmp .le 9, 3)) (by decide) rfl
theorem s_89_206 {K : gC} : gOk K g_Ms mi_89 206 (ga_push (.long (-4)) 209) := gs_ldc2 (by decide +kernel : decode mi_89.2.1 206 = .ok (.ldc2_w 99, 3)) gw_778 rfl
theorem s_89_209 {K : gC} : gOk K g_Ms mi_89 209 (ga_goto 216) := gs_goto (by decide +kernel : decode mi_89.2.1 209 = .ok (.goto 7, 3)) (by decide)
theorem s_89_212 {K : gC} : gOk K g_Ms mi_89 212 (ga_aload 0 213) := gs_aload_n (by decide +kernel : decode mi_89.2.1 212 = .ok (.aload_n 0, 1)) rfl rfl
theorem s_89_213 {K : gC} : gOk K g_Ms mi_89 213 (ga_getL 7 11 216) := gs_getL gcls_7 (by decide) (by decide) gw_667 (by decide +kernel : decode mi_89.2.1 213 = .ok (.getfield 91, 3)) rfl
theorem s_89_216 {K : gC} : gOk K g_Ms mi_89 216 (ga_putL 7 11 219) := gs_putL gcls_7 (by decide) (by decide) rfl rfl gw_667 (by decide +kernel : decode mi_89.2.1 216 = .ok (.putfield 91, 3)) rfl
theorem s_89_219 {K : gC} : gOk K g_Ms mi_89 219 (ga_goto 394) := gs_goto (by decide +kernel : decode mi_89.2.1 219 = .ok (.goto 175, 3)) (by decide)
theorem s_89_222 {K : gC} : gOk K g_Ms mi_89 222 (ga_aload 0 223) := gs_aload_n (by decide +kernel : decode mi_89.2.1 222 = .ok (.aload_n 0, 1)) rfl rfl
theorem s_89_223 {K : gC} : gOk K g_Ms mi_89 223 (ga_getR 7 8 226) := gs_getR gcls_7 (by decide) (by decide) gw_664 (by decide +kernel : decode mi_89.2.1 223 = .ok (.getfield 26, 3)) rfl
theorem s_89_226 {K : gC} : gOk K g_Ms mi_89 226 (ga_aload 0 227) := gs_aload_n (by decide +kernel : decode mi_89.2.1 226 = .ok (.aload_n 0, 1)) rfl rfl
theorem s_89_227 {K : gC} : gOk K g_Ms mi_89 227 (ga_getI 7 9 230) := gs_getI gcls_7 (by decide) (by decide) gw_665 (by decide +kernel : decode mi_89.2.1 227 = .ok (.getfield 77, 3)) rfl
theorem s_89_230 {K : gC} : gOk K g_Ms mi_89 230 (ga_iald 231) := gs_iald (by decide +kernel : decode mi_89.2.1 230 = .ok (.iaload, 1)) rfl
theorem s_89_231 {K : gC} : gOk K g_Ms mi_89 231 (ga_push (.int 48) 233) := gs_bipush (by decide +kernel : decode mi_89.2.1 231 = .ok (.bipush 48, 2)) (by decide) rfl
theorem s_89_233 {K : gC} : gOk K g_Ms mi_89 233 (ga_push (.int 57) 235) := gs_bipush (by decide +kernel : decode mi_89.2.1 233 = .ok (.bipush 57, 2)) (by decide) rfl
theorem s_89_235 {K : gC} : gOk K g_Ms mi_89 235 (ga_call 83 3 238) := gs_callS (gce_X7_in (by decide) (by decide)) gw_751 gw_752 (by decide +kernel : decode mi_89.2.1 235 = .ok (.invokestatic 65, 3)) rfl
theorem s_89_238 {K : gC} : gOk K g_Ms mi_89 238 (ga_if (fun x => decide (x = 0)) 357 241) := gs_if_eq (by decide +kernel : decode mi_89.2.1 238 = .ok (.ifCond .eq 119, 3)) (by decide) rfl
theorem s_89_241 {K : gC} : gOk K g_Ms mi_89 241 (ga_aload 0 242) := gs_aload_n (by decide +kernel : decode mi_89.2.1 241 = .ok (.aload_n 0, 1)) rfl rfl
theorem s_89_242 {K : gC} : gOk K g_Ms mi_89 242 (ga_getI 7 9 245) := gs_getI gcls_7 (by decide) (by decide) gw_665 (by decide +kernel : decode mi_89.2.1 242 = .ok (.getfield 77, 3)) rfl
theorem s_89_245 {K : gC} : gOk K g_Ms mi_89 245 (ga_aload 0 246) := gs_aload_n (by decide +kernel : decode mi_89.2.1 245 = .ok (.aload_n 0, 1)) rfl rfl
theorem s_89_246 {K : gC} : gOk K g_Ms mi_89 246 (ga_getI 7 7 249) := gs_getI gcls_7 (by decide) (by decide) gw_663 (by decide +kernel : decode mi_89.2.1 246 = .ok (.getfield 72, 3)) rfl
theorem s_89_249 {K : gC} : gOk K g_Ms mi_89 249 (ga_cmp (fun x y => decide (y ≤ x)) 333 252) := gs_cmp_ge (by decide +kernel : decode mi_89.2.1 249 = .ok (.if_icmp .ge 84, 3)) (by decide) rfl
theorem s_89_252 {K : gC} : gOk K g_Ms mi_89 252 (ga_aload 0 253) := gs_aload_n (by decide +kernel : decode mi_89.2.1 252 = .ok (.aload_n 0, 1)) rfl rfl
theorem s_89_253 {K : gC} : gOk K g_Ms mi_89 253 (ga_getR 7 8 256) := gs_getR gcls_7 (by decide) (by decide) gw_664 (by decide +kernel : decode mi_89.2.1 253 = .ok (.getfield 26, 3)) rfl
theorem s_89_256 {K : gC} : gOk K g_Ms mi_89 256 (ga_aload 0 257) := gs_aload_n (by decide +kernel : decode mi_89.2.1 256 = .ok (.aload_n 0, 1)) rfl rfl
theorem s_89_257 {K : gC} : gOk K g_Ms mi_89 257 (ga_getI 7 9 260) := gs_getI gcls_7 (by decide) (by decide) gw_665 (by decide +kernel : decode mi_89.2.1 257 = .ok (.getfield 77, 3)) rfl
theorem s_89_260 {K : gC} : gOk K g_Ms mi_89 260 (ga_iald 261) := gs_iald (by decide +kernel : decode mi_89.2.1 260 = .ok (.iaload, 1)) rfl
theorem s_89_261 {K : gC} : gOk K g_Ms mi_89 261 (ga_push (.int 48) 263) := gs_bipush (by decide +kernel : decode mi_89.2.1 261 = .ok (.bipush 48, 2)) (by decide) rfl
theorem s_89_263 {K : gC} : gOk K g_Ms mi_89 263 (ga_push (.int 57) 265) := gs_bipush (by decide +kernel : decode mi_89.2.1 263 = .ok (.bipush 57, 2)) (by decide) rfl
theorem s_89_265 {K : gC} : gOk K g_Ms mi_89 265 (ga_call 83 3 268) := gs_callS (gce_X7_in (by decide) (by decide)) gw_751 gw_752 (by decide +kernel : decode mi_89.2.1 265 = .ok (.invokestatic 65, 3)) rfl
theorem s_89_268 {K : gC} : gOk K g_Ms mi_89 268 (ga_if (fun x => decide (x = 0)) 333 271) := gs_if_eq (by decide +kernel : decode mi_89.2.1 268 = .ok (.ifCond .eq 65, 3)) (by decide) rfl
theorem s_89_271 {K : gC} : gOk K g_Ms mi_89 271 (ga_aload 0 272) := gs_aload_n (by decide +kernel : decode mi_89.2.1 271 = .ok (.aload_n 0, 1)) rfl rfl
theorem s_89_272 {K : gC} : gOk K g_Ms mi_89 272 (ga_aload 0 273) := gs_aload_n (by decide +kernel : decode mi_89.2.1 272 = .ok (.aload_n 0, 1)) rfl rfl
theorem s_89_273 {K : gC} : gOk K g_Ms mi_89 273 (ga_getI 7 12 276) := gs_getI gcls_7 (by decide) (by decide) gw_668 (by decide +kernel : decode mi_89.2.1 273 = .ok (.getfield 83, 3)) rfl
theorem s_89_276 {K : gC} : gOk K g_Ms mi_89 276 (ga_push (.int 2) 277) := gs_iconst (by decide +kernel : decode mi_89.2.1 276 = .ok (.iconst 2, 1)) (by decide) rfl
theorem s_89_277 {K : gC} : gOk K g_Ms mi_89 277 (ga_cmp (fun x y => decide (y ≤ x)) 303 280) := gs_cmp_ge (by decide +kernel : decode mi_89.2.1 277 = .ok (.if_icmp .ge 26, 3)) (by decide) rfl
theorem s_89_280 {K : gC} : gOk K g_Ms mi_89 280 (ga_push (.int 10) 282) := gs_bipush (by decide +kernel : decode mi_89.2.1 280 = .ok (.bipush 10, 2)) (by decide) rfl
theorem s_89_282 {K : gC} : gOk K g_Ms mi_89 282 (ga_aload 0 283) := gs_aload_n (by decide +kernel : decode mi_89.2.1 282 = .ok (.aload_n 0, 1)) rfl rfl
theorem s_89_283 {K : gC} : gOk K g_Ms mi_89 283 (ga_getI 7 13 286) := gs_getI gcls_7 (by decide) (by decide) gw_669 (by decide +kernel : decode mi_89.2.1 283 = .ok (.getfield 86, 3)) rfl
theorem s_89_286 {K : gC} : gOk K g_Ms mi_89 286 (ga_bin (fun x y => x * y) 287) := gs_imul (by decide +kernel : decode mi_89.2.1 286 = .ok (.imul, 1)) rfl
theorem s_89_287 {K : gC} : gOk K g_Ms mi_89 287 (ga_aload 0 288) := gs_aload_n (by decide +kernel : decode mi_89.2.1 287 = .ok (.aload_n 0, 1)) rfl rfl
theorem s_89_288 {K : gC} : gOk K g_Ms mi_89 288 (ga_getR 7 8 291) := gs_getR gcls_7 (by decide) (by decide) gw_664 (by decide +kernel : decode mi_89.2.1 288 = .ok (.getfield 26, 3)) rfl
theorem s_89_291 {K : gC} : gOk K g_Ms mi_89 291 (ga_aload 0 292) := gs_aload_n (by decide +kernel : decode mi_89.2.1 291 = .ok (.aload_n 0, 1)) rfl rfl
theorem s_89_292 {K : gC} : gOk K g_Ms mi_89 292 (ga_getI 7 9 295) := gs_getI gcls_7 (by decide) (by decide) gw_665 (by decide +kernel : decode mi_89.2.1 292 = .ok (.getfield 77, 3)) rfl
theorem s_89_295 {K : gC} : gOk K g_Ms mi_89 295 (ga_iald 296) := gs_iald (by decide +kernel : decode mi_89.2.1 295 = .ok (.iaload, 1)) rfl
theorem s_89_296 {K : gC} : gOk K g_Ms mi_89 296 (ga_bin (fun x y => x + y) 297) := gs_iadd (by decide +kernel : decode mi_89.2.1 296 = .ok (.iadd, 1)) rfl
theorem s_89_297 {K : gC} : gOk K g_Ms mi_89 297 (ga_push (.int 48) 299) := gs_bipush (by decide +kernel : decode mi_89.2.1 297 = .ok (.bipush 48, 2)) (by decide) rfl
theorem s_89_299 {K : gC} : gOk K g_Ms mi_89 299 (ga_bin (fun x y => x - y) 300) := gs_isub (by decide +kernel : decode mi_89.2.1 299 = .ok (.isub, 1)) rfl
theorem s_89_300 {K : gC} : gOk K g_Ms mi_89 300 (ga_goto 307) := gs_goto (by decide +kernel : decode mi_89.2.1 300 = .ok (.goto 7, 3)) (by decide)
theorem s_89_303 {K : gC} : gOk K g_Ms mi_89 303 (ga_aload 0 304) := gs_aload_n (by decide +kernel : decode mi_89.2.1 303 = .ok (.aload_n 0, 1)) rfl rfl
theorem s_89_304 {K : gC} : gOk K g_Ms mi_89 304 (ga_getI 7 13 307) := gs_getI gcls_7 (by decide) (by decide) gw_669 (by decide +kernel : decode mi_89.2.1 304 = .ok (.getfield 86, 3)) rfl
theorem s_89_307 {K : gC} : gOk K g_Ms mi_89 307 (ga_putI 7 13 310) := gs_putI gcls_7 (by decide) (by decide) rfl rfl gw_669 (by decide +kernel : decode mi_89.2.1 307 = .ok (.putfield 86, 3)) rfl
theorem s_89_310 {K : gC} : gOk K g_Ms mi_89 310 (ga_aload 0 311) := gs_aload_n (by decide +kernel : decode mi_89.2.1 310 = .ok (.aload_n 0, 1)) rfl rfl
theorem s_89_311 {K : gC} : gOk K g_Ms mi_89 311 (ga_dup 312) := gs_dup (by decide +kernel : decode mi_89.2.1 311 = .ok (.dup, 1)) rfl
theorem s_89_312 {K : gC} : gOk K g_Ms mi_89 312 (ga_getI 7 12 315) := gs_getI gcls_7 (by decide) (by decide) gw_668 (by decide +kernel : decode mi_89.2.1 312 = .ok (.getfield 83, 3)) rfl
theorem s_89_315 {K : gC} : gOk K g_Ms mi_89 315 (ga_push (.int 1) 316) := gs_iconst (by decide +kernel : decode mi_89.2.1 315 = .ok (.iconst 1, 1)) (by decide) rfl
theorem s_89_316 {K : gC} : gOk K g_Ms mi_89 316 (ga_bin (fun x y => x + y) 317) := gs_iadd (by decide +kernel : decode mi_89.2.1 316 = .ok (.iadd, 1)) rfl
theorem s_89_317 {K : gC} : gOk K g_Ms mi_89 317 (ga_putI 7 12 320) := gs_putI gcls_7 (by decide) (by decide) rfl rfl gw_668 (by decide +kernel : decode mi_89.2.1 317 = .ok (.putfield 83, 3)) rfl
theorem s_89_320 {K : gC} : gOk K g_Ms mi_89 320 (ga_aload 0 321) := gs_aload_n (by decide +kernel : decode mi_89.2.1 320 = .ok (.aload_n 0, 1)) rfl rfl
theorem s_89_321 {K : gC} : gOk K g_Ms mi_89 321 (ga_dup 322) := gs_dup (by decide +kernel : decode mi_89.2.1 321 = .ok (.dup, 1)) rfl
theorem s_89_322 {K : gC} : gOk K g_Ms mi_89 322 (ga_getI 7 9 325) := gs_getI gcls_7 (by decide) (by decide) gw_665 (by decide +kernel : decode mi_89.2.1 322 = .ok (.getfield 77, 3)) rfl
theorem s_89_325 {K : gC} : gOk K g_Ms mi_89 325 (ga_push (.int 1) 326) := gs_iconst (by decide +kernel : decode mi_89.2.1 325 = .ok (.iconst 1, 1)) (by decide) rfl
theorem s_89_326 {K : gC} : gOk K g_Ms mi_89 326 (ga_bin (fun x y => x + y) 327) := gs_iadd (by decide +kernel : decode mi_89.2.1 326 = .ok (.iadd, 1)) rfl
theorem s_89_327 {K : gC} : gOk K g_Ms mi_89 327 (ga_putI 7 9 330) := gs_putI gcls_7 (by decide) (by decide) rfl rfl gw_665 (by decide +kernel : decode mi_89.2.1 327 = .ok (.putfield 77, 3)) rfl
theorem s_89_330 {K : gC} : gOk K g_Ms mi_89 330 (ga_goto 241) := gs_goto (by decide +kernel : decode mi_89.2.1 330 = .ok (.goto (-89), 3)) (by decide)
theorem s_89_333 {K : gC} : gOk K g_Ms mi_89 333 (ga_aload 0 334) := gs_aload_n (by decide +kernel : decode mi_89.2.1 333 = .ok (.aload_n 0, 1)) rfl rfl
theorem s_89_334 {K : gC} : gOk K g_Ms mi_89 334 (ga_aload 0 335) := gs_aload_n (by decide +kernel : decode mi_89.2.1 334 = .ok (.aload_n 0, 1)) rfl rfl
theorem s_89_335 {K : gC} : gOk K g_Ms mi_89 335 (ga_getI 7 12 338) := gs_getI gcls_7 (by decide) (by decide) gw_668 (by decide +kernel : decode mi_89.2.1 335 = .ok (.getfield 83, 3)) rfl
theorem s_89_338 {K : gC} : gOk K g_Ms mi_89 338 (ga_push (.int 2) 339) := gs_iconst (by decide +kernel : decode mi_89.2.1 338 = .ok (.iconst 2, 1)) (by decide) rfl
theorem s_89_339 {K : gC} : gOk K g_Ms mi_89 339 (ga_cmp (fun x y => decide (x ≤ y)) 348 342) := gs_cmp_le (by decide +kernel : decode mi_89.2.1 339 = .ok (.if_icmp .le 9, 3)) (by decide) rfl
theorem s_89_342 {K : gC} : gOk K g_Ms mi_89 342 (ga_push (.long (-4)) 345) := gs_ldc2 (by decide +kernel : decode mi_89.2.1 342 = .ok (.ldc2_w 99, 3)) gw_778 rfl
theorem s_89_345 {K : gC} : gOk K g_Ms mi_89 345 (ga_goto 351) := gs_goto (by decide +kernel : decode mi_89.2.1 345 = .ok (.goto 6, 3)) (by decide)
theorem s_89_348 {K : gC} : gOk K g_Ms mi_89 348 (ga_push (.long (-1)) 351) := gs_ldc2 (by decide +kernel : decode mi_89.2.1 348 = .ok (.ldc2_w 101, 3)) gw_779 rfl
theorem s_89_351 {K : gC} : gOk K g_Ms mi_89 351 (ga_putL 7 11 354) := gs_putL gcls_7 (by decide) (by decide) rfl rfl gw_667 (by decide +kernel : decode mi_89.2.1 351 = .ok (.putfield 91, 3)) rfl
theorem s_89_354 {K : gC} : gOk K g_Ms mi_89 354 (ga_goto 394) := gs_goto (by decide +kernel : decode mi_89.2.1 354 = .ok (.goto 40, 3)) (by decide)
theorem s_89_357 {K : gC} : gOk K g_Ms mi_89 357 (ga_aload 0 358) := gs_aload_n (by decide +kernel : decode mi_89.2.1 357 = .ok (.aload_n 0, 1)) rfl rfl
theorem s_89_358 {K : gC} : gOk K g_Ms mi_89 358 (ga_aload 0 359) := gs_aload_n (by decide +kernel : decode mi_89.2.1 358 = .ok (.aload_n 0, 1)) rfl rfl
theorem s_89_359 {K : gC} : gOk K g_Ms mi_89 359 (ga_getR 7 8 362) := gs_getR gcls_7 (by decide) (by decide) gw_664 (by decide +kernel : decode mi_89.2.1 359 = .ok (.getfield 26, 3)) rfl
theorem s_89_362 {K : gC} : gOk K g_Ms mi_89 362 (ga_aload 0 363) := gs_aload_n (by decide +kernel : decode mi_89.2.1 362 = .ok (.aload_n 0, 1)) rfl rfl
theorem s_89_363 {K : gC} : gOk K g_Ms mi_89 363 (ga_getI 7 9 366) := gs_getI gcls_7 (by decide) (by decide) gw_665 (by decide +kernel : decode mi_89.2.1 363 = .ok (.getfield 77, 3)) rfl
theorem s_89_366 {K : gC} : gOk K g_Ms mi_89 366 (ga_iald 367) := gs_iald (by decide +kernel : decode mi_89.2.1 366 = .ok (.iaload, 1)) rfl
theorem s_89_367 {K : gC} : gOk K g_Ms mi_89 367 (ga_push (.int 59) 369) := gs_bipush (by decide +kernel : decode mi_89.2.1 367 = .ok (.bipush 59, 2)) (by decide) rfl
theorem s_89_369 {K : gC} : gOk K g_Ms mi_89 369 (ga_cmp (fun x y => decide (¬ x = y)) 378 372) := gs_cmp_ne (by decide +kernel : decode mi_89.2.1 369 = .ok (.if_icmp .ne 9, 3)) (by decide) rfl
theorem s_89_372 {K : gC} : gOk K g_Ms mi_89 372 (ga_push (.long (-3)) 375) := gs_ldc2 (by decide +kernel : decode mi_89.2.1 372 = .ok (.ldc2_w 103, 3)) gw_780 rfl
theorem s_89_375 {K : gC} : gOk K g_Ms mi_89 375 (ga_goto 381) := gs_goto (by decide +kernel : decode mi_89.2.1 375 = .ok (.goto 6, 3)) (by decide)
theorem s_89_378 {K : gC} : gOk K g_Ms mi_89 378 (ga_push (.long (-4)) 381) := gs_ldc2 (by decide +kernel : decode mi_89.2.1 378 = .ok (.ldc2_w 99, 3)) gw_778 rfl
theorem s_89_381 {K : gC} : gOk K g_Ms mi_89 381 (ga_putL 7 11 384) := gs_putL gcls_7 (by decide) (by decide) rfl rfl gw_667 (by decide +kernel : decode mi_89.2.1 381 = .ok (.putfield 91, 3)) rfl
theorem s_89_384 {K : gC} : gOk K g_Ms mi_89 384 (ga_aload 0 385) := gs_aload_n (by decide +kernel : decode mi_89.2.1 384 = .ok (.aload_n 0, 1)) rfl rfl
theorem s_89_385 {K : gC} : gOk K g_Ms mi_89 385 (ga_dup 386) := gs_dup (by decide +kernel : decode mi_89.2.1 385 = .ok (.dup, 1)) rfl
theorem s_89_386 {K : gC} : gOk K g_Ms mi_89 386 (ga_getI 7 9 389) := gs_getI gcls_7 (by decide) (by decide) gw_665 (by decide +kernel : decode mi_89.2.1 386 = .ok (.getfield 77, 3)) rfl
theorem s_89_389 {K : gC} : gOk K g_Ms mi_89 389 (ga_push (.int 1) 390) := gs_iconst (by decide +kernel : decode mi_89.2.1 389 = .ok (.iconst 1, 1)) (by decide) rfl
theorem s_89_390 {K : gC} : gOk K g_Ms mi_89 390 (ga_bin (fun x y => x + y) 391) := gs_iadd (by decide +kernel : decode mi_89.2.1 390 = .ok (.iadd, 1)) rfl
theorem s_89_391 {K : gC} : gOk K g_Ms mi_89 391 (ga_putI 7 9 394) := gs_putI gcls_7 (by decide) (by decide) rfl rfl gw_665 (by decide +kernel : decode mi_89.2.1 391 = .ok (.putfield 77, 3)) rfl
theorem s_89_394 {K : gC} : gOk K g_Ms mi_89 394 (ga_vret) := gs_vret (by decide +kernel : decode mi_89.2.1 394 = .ok (.return_, 1)) rfl
set_option maxRecDepth 1000000 in
theorem ok_89 {K : gC} : ∀ e ∈ t_89, gOk K g_Ms mi_89 e.1 e.2 := by
  unfold t_89
  simp only [List.forall_mem_cons, List.not_mem_nil, false_implies, implies_true, and_true]
  exact ⟨s_89_0, s_89_1, s_89_4, s_89_5, s_89_8, s_89_11, s_89_12, s_89_15, s_89_16, s_89_19, s_89_20, s_89_22, s_89_25, s_89_26, s_89_27, s_89_30, s_89_31, s_89_32, s_89_35, s_89_38, s_89_39, s_89_40, s_89_43, s_89_46, s_89_47, s_89_48, s_89_51, s_89_52, s_89_53, s_89_56, s_89_57, s_89_60, s_89_61, s_89_64, s_89_67, s_89_68, s_89_71, s_89_74, s_89_77, s_89_78, s_89_81, s_89_82, s_89_85, s_89_86, s_89_88, s_89_90, s_89_93, s_89_96, s_89_97, s_89_98, s_89_101, s_89_102, s_89_105, s_89_106, s_89_109, s_89_112, s_89_113, s_89_116, s_89_117, s_89_120, s_89_121, s_89_123, s_89_125, s_89_128, s_89_131, s_89_132, s_89_133, s_89_136, s_89_137, s_89_140, s_89_141, s_89_143, s_89_146, s_89_149, s_89_150, s_89_153, s_89_154, s_89_155, s_89_158, s_89_159, s_89_162, s_89_163, s_89_164, s_89_165, s_89_168, s_89_169, s_89_172, s_89_175, s_89_178, s_89_179, s_89_180, s_89_183, s_89_184, s_89_185, s_89_188, s_89_191, s_89_192, s_89_193, s_89_196, s_89_197, s_89_200, s_89_201, s_89_203, s_89_206, s_89_209, s_89_212, s_89_213, s_89_216, s_89_219, s_89_222, s_89_223, s_89_226, s_89_227, s_89_230, s_89_231, s_89_233, s_89_235, s_89_238, s_89_241, s_89_242, s_89_245, s_89_246, s_89_249, s_89_252, s_89_253, s_89_256, s_89_257, s_89_260, s_89_261, s_89_263, s_89_265, s_89_268, s_89_271, s_89_272, s_89_273, s_89_276, s_89_277, s_89_280, s_89_282, s_89_283, s_89_286, s_89_287, s_89_288, s_89_291, s_89_292, s_89_295, s_89_296, s_89_297, s_89_299, s_89_300, s_89_303, s_89_304, s_89_307, s_89_310, s_89_311, s_89_312, s_89_315, s_89_316, s_89_317, s_89_320, s_89_321, s_89_322, s_89_325, s_89_326, s_89_327, s_89_330, s_89_333, s_89_334, s_89_335, s_89_338, s_89_339, s_89_342, s_89_345, s_89_348, s_89_351, s_89_354, s_89_357, s_89_358, s_89_359, s_89_362, s_89_363, s_89_366, s_89_367, s_89_369, s_89_372, s_89_375, s_89_378, s_89_381, s_89_384, s_89_385, s_89_386, s_89_389, s_89_390, s_89_391, s_89_394⟩
theorem s_90_0 {K : gC} : gOk K g_Ms mi_90 0 (ga_aload 0 1) := gs_aload_n (by decide +kernel : decode mi_90.2.1 0 = .ok (.aload_n 0, 1)) rfl rfl
theorem s_90_1 {K : gC} : gOk K g_Ms mi_90 1 (ga_aload 0 2) := gs_aload_n (by decide +kernel : decode mi_90.2.1 1 = .ok (.aload_n 0, 1)) rfl rfl
theorem s_90_2 {K : gC} : gOk K g_Ms mi_90 2 (ga_getI 7 10 5) := gs_getI gcls_7 (by decide) (by decide) gw_666 (by decide +kernel : decode mi_90.2.1 2 = .ok (.getfield 80, 3)) rfl
theorem s_90_5 {K : gC} : gOk K g_Ms mi_90 5 (ga_putI 7 14 8) := gs_putI gcls_7 (by decide) (by decide) rfl rfl gw_670 (by decide +kernel : decode mi_90.2.1 5 = .ok (.putfield 105, 3)) rfl
theorem s_90_8 {K : gC} : gOk K g_Ms mi_90 8 (ga_push (.int 0) 9) := gs_iconst (by decide +kernel : decode mi_90.2.1 8 = .ok (.iconst 0, 1)) (by decide) rfl
theorem s_90_9 {K : gC} : gOk K g_Ms mi_90 9 (ga_zret) := gs_zret (by decide +kernel : decode mi_90.2.1 9 = .ok (.ireturn, 1)) rfl rfl rfl
theorem ok_90 {K : gC} : ∀ e ∈ t_90, gOk K g_Ms mi_90 e.1 e.2 := by
  unfold t_90
  simp only [List.forall_mem_cons, List.not_mem_nil, false_implies, implies_true, and_true]
  exact ⟨s_90_0, s_90_1, s_90_2, s_90_5, s_90_8, s_90_9⟩
theorem s_91_0 {K : gC} : gOk K g_Ms mi_91 0 (ga_aload 0 1) := gs_aload_n (by decide +kernel : decode mi_91.2.1 0 = .ok (.aload_n 0, 1)) rfl rfl
theorem s_91_1 {K : gC} : gOk K g_Ms mi_91 1 (ga_callV 7 89 0 4) := gs_callV gcls_7 (gce_X7_nextToken (by decide) (by decide)) gw_771 gw_773 gw_17 (by decide +kernel : decode mi_91.2.1 1 = .ok (.invokevirtual 108, 3)) rfl
theorem s_91_4 {K : gC} : gOk K g_Ms mi_91 4 (ga_aload 0 5) := gs_aload_n (by decide +kernel : decode mi_91.2.1 4 = .ok (.aload_n 0, 1)) rfl rfl
theorem s_91_5 {K : gC} : gOk K g_Ms mi_91 5 (ga_getL 7 11 8) := gs_getL gcls_7 (by decide) (by decide) gw_667 (by decide +kernel : decode mi_91.2.1 5 = .ok (.getfield 91, 3)) rfl
theorem s_91_8 {K : gC} : gOk K g_Ms mi_91 8 (ga_push (.long (-1)) 11) := gs_ldc2 (by decide +kernel : decode mi_91.2.1 8 = .ok (.ldc2_w 101, 3)) gw_779 rfl
theorem s_91_11 {K : gC} : gOk K g_Ms mi_91 11 (ga_lcmp 12) := gs_lcmp (by decide +kernel : decode mi_91.2.1 11 = .ok (.lcmp, 1)) rfl
theorem s_91_12 {K : gC} : gOk K g_Ms mi_91 12 (ga_if (fun x => decide (¬ x = 0)) 27 15) := gs_if_ne (by decide +kernel : decode mi_91.2.1 12 = .ok (.ifCond .ne 15, 3)) (by decide) rfl
theorem s_91_15 {K : gC} : gOk K g_Ms mi_91 15 (ga_aload 0 16) := gs_aload_n (by decide +kernel : decode mi_91.2.1 15 = .ok (.aload_n 0, 1)) rfl rfl
theorem s_91_16 {K : gC} : gOk K g_Ms mi_91 16 (ga_getI 7 13 19) := gs_getI gcls_7 (by decide) (by decide) gw_669 (by decide +kernel : decode mi_91.2.1 16 = .ok (.getfield 86, 3)) rfl
theorem s_91_19 {K : gC} : gOk K g_Ms mi_91 19 (ga_iload 2 20) := gs_iload_n (by decide +kernel : decode mi_91.2.1 19 = .ok (.iload_n 2, 1)) rfl rfl
theorem s_91_20 {K : gC} : gOk K g_Ms mi_91 20 (ga_iload 3 21) := gs_iload_n (by decide +kernel : decode mi_91.2.1 20 = .ok (.iload_n 3, 1)) rfl rfl
theorem s_91_21 {K : gC} : gOk K g_Ms mi_91 21 (ga_call 83 3 24) := gs_callS (gce_X7_in (by decide) (by decide)) gw_751 gw_752 (by decide +kernel : decode mi_91.2.1 21 = .ok (.invokestatic 65, 3)) rfl
theorem s_91_24 {K : gC} : gOk K g_Ms mi_91 24 (ga_if (fun x => decide (¬ x = 0)) 32 27) := gs_if_ne (by decide +kernel : decode mi_91.2.1 24 = .ok (.ifCond .ne 8, 3)) (by decide) rfl
theorem s_91_27 {K : gC} : gOk K g_Ms mi_91 27 (ga_aload 0 28) := gs_aload_n (by decide +kernel : decode mi_91.2.1 27 = .ok (.aload_n 0, 1)) rfl rfl
theorem s_91_28 {K : gC} : gOk K g_Ms mi_91 28 (ga_callV 7 90 0 31) := gs_callV gcls_7 (gce_X7_fails (by decide) (by decide)) gw_799 gw_801 gw_20 (by decide +kernel : decode mi_91.2.1 28 = .ok (.invokevirtual 111, 3)) rfl
theorem s_91_31 {K : gC} : gOk K g_Ms mi_91 31 (ga_zret) := gs_zret (by decide +kernel : decode mi_91.2.1 31 = .ok (.ireturn, 1)) rfl rfl rfl
theorem s_91_32 {K : gC} : gOk K g_Ms mi_91 32 (ga_aload 0 33) := gs_aload_n (by decide +kernel : decode mi_91.2.1 32 = .ok (.aload_n 0, 1)) rfl rfl
theorem s_91_33 {K : gC} : gOk K g_Ms mi_91 33 (ga_getR 7 17 36) := gs_getR gcls_7 (by decide) (by decide) gw_673 (by decide +kernel : decode mi_91.2.1 33 = .ok (.getfield 29, 3)) rfl
theorem s_91_36 {K : gC} : gOk K g_Ms mi_91 36 (ga_iload 1 37) := gs_iload_n (by decide +kernel : decode mi_91.2.1 36 = .ok (.iload_n 1, 1)) rfl rfl
theorem s_91_37 {K : gC} : gOk K g_Ms mi_91 37 (ga_aload 0 38) := gs_aload_n (by decide +kernel : decode mi_91.2.1 37 = .ok (.aload_n 0, 1)) rfl rfl
theorem s_91_38 {K : gC} : gOk K g_Ms mi_91 38 (ga_getI 7 13 41) := gs_getI gcls_7 (by decide) (by decide) gw_669 (by decide +kernel : decode mi_91.2.1 38 = .ok (.getfield 86, 3)) rfl
theorem s_91_41 {K : gC} : gOk K g_Ms mi_91 41 (ga_iast 42) := gs_iast (by decide +kernel : decode mi_91.2.1 41 = .ok (.iastore, 1)) rfl
theorem s_91_42 {K : gC} : gOk K g_Ms mi_91 42 (ga_push (.int 1) 43) := gs_iconst (by decide +kernel : decode mi_91.2.1 42 = .ok (.iconst 1, 1)) (by decide) rfl
theorem s_91_43 {K : gC} : gOk K g_Ms mi_91 43 (ga_zret) := gs_zret (by decide +kernel : decode mi_91.2.1 43 = .ok (.ireturn, 1)) rfl rfl rfl
theorem ok_91 {K : gC} : ∀ e ∈ t_91, gOk K g_Ms mi_91 e.1 e.2 := by
  unfold t_91
  simp only [List.forall_mem_cons, List.not_mem_nil, false_implies, implies_true, and_true]
  exact ⟨s_91_0, s_91_1, s_91_4, s_91_5, s_91_8, s_91_11, s_91_12, s_91_15, s_91_16, s_91_19, s_91_20, s_91_21, s_91_24, s_91_27, s_91_28, s_91_31, s_91_32, s_91_33, s_91_36, s_91_37, s_91_38, s_91_41, s_91_42, s_91_43⟩
theorem s_92_0 {K : gC} : gOk K g_Ms mi_92 0 (ga_aload 0 1) := gs_aload_n (by decide +kernel : decode mi_92.2.1 0 = .ok (.aload_n 0, 1)) rfl rfl
theorem s_92_1 {K : gC} : gOk K g_Ms mi_92 1 (ga_iload 1 2) := gs_iload_n (by decide +kernel : decode mi_92.2.1 1 = .ok (.iload_n 1, 1)) rfl rfl
theorem s_92_2 {K : gC} : gOk K g_Ms mi_92 2 (ga_push (.int 0) 3) := gs_iconst (by decide +kernel : decode mi_92.2.1 2 = .ok (.iconst 0, 1)) (by decide) rfl
theorem s_92_3 {K : gC} : gOk K g_Ms mi_92 3 (ga_aload 0 4) := gs_aload_n (by decide +kernel : decode mi_92.2.1 3 = .ok (.aload_n 0, 1)) rfl rfl
theorem s_92_4 {K : gC} : gOk K g_Ms mi_92 4 (ga_getI 7 16 7) := gs_getI gcls_7 (by decide) (by decide) gw_672 (by decide +kernel : decode mi_92.2.1 4 = .ok (.getfield 115, 3)) rfl
theorem s_92_7 {K : gC} : gOk K g_Ms mi_92 7 (ga_push (.int 1) 8) := gs_iconst (by decide +kernel : decode mi_92.2.1 7 = .ok (.iconst 1, 1)) (by decide) rfl
theorem s_92_8 {K : gC} : gOk K g_Ms mi_92 8 (ga_bin (fun x y => x - y) 9) := gs_isub (by decide +kernel : decode mi_92.2.1 8 = .ok (.isub, 1)) rfl
theorem s_92_9 {K : gC} : gOk K g_Ms mi_92 9 (ga_callV 7 91 3 12) := gs_callV gcls_7 (gce_X7_isNumber (by decide) (by decide)) gw_795 gw_797 gw_19 (by decide +kernel : decode mi_92.2.1 9 = .ok (.invokevirtual 118, 3)) rfl
theorem s_92_12 {K : gC} : gOk K g_Ms mi_92 12 (ga_zret) := gs_zret (by decide +kernel : decode mi_92.2.1 12 = .ok (.ireturn, 1)) rfl rfl rfl
theorem ok_92 {K : gC} : ∀ e ∈ t_92, gOk K g_Ms mi_92 e.1 e.2 := by
  unfold t_92
  simp only [List.forall_mem_cons, List.not_mem_nil, false_implies, implies_true, and_true]
  exact ⟨s_92_0, s_92_1, s_92_2, s_92_3, s_92_4, s_92_7, s_92_8, s_92_9, s_92_12⟩
theorem s_93_0 {K : gC} : gOk K g_Ms mi_93 0 (ga_aload 0 1) := gs_aload_n (by decide +kernel : decode mi_93.2.1 0 = .ok (.aload_n 0, 1)) rfl rfl
theorem s_93_1 {K : gC} : gOk K g_Ms mi_93 1 (ga_iload 1 2) := gs_iload_n (by decide +kernel : decode mi_93.2.1 1 = .ok (.iload_n 1, 1)) rfl rfl
theorem s_93_2 {K : gC} : gOk K g_Ms mi_93 2 (ga_push (.int 1) 3) := gs_iconst (by decide +kernel : decode mi_93.2.1 2 = .ok (.iconst 1, 1)) (by decide) rfl
theorem s_93_3 {K : gC} : gOk K g_Ms mi_93 3 (ga_bin (fun x y => x + y) 4) := gs_iadd (by decide +kernel : decode mi_93.2.1 3 = .ok (.iadd, 1)) rfl
theorem s_93_4 {K : gC} : gOk K g_Ms mi_93 4 (ga_callV 7 92 1 7) := gs_callV gcls_7 (gce_X7_isThere (by decide) (by decide)) gw_791 gw_793 gw_18 (by decide +kernel : decode mi_93.2.1 4 = .ok (.invokevirtual 121, 3)) rfl
theorem s_93_7 {K : gC} : gOk K g_Ms mi_93 7 (ga_if (fun x => decide (x = 0)) 20 10) := gs_if_eq (by decide +kernel : decode mi_93.2.1 7 = .ok (.ifCond .eq 13, 3)) (by decide) rfl
theorem s_93_10 {K : gC} : gOk K g_Ms mi_93 10 (ga_aload 0 11) := gs_aload_n (by decide +kernel : decode mi_93.2.1 10 = .ok (.aload_n 0, 1)) rfl rfl
theorem s_93_11 {K : gC} : gOk K g_Ms mi_93 11 (ga_iload 1 12) := gs_iload_n (by decide +kernel : decode mi_93.2.1 11 = .ok (.iload_n 1, 1)) rfl rfl
theorem s_93_12 {K : gC} : gOk K g_Ms mi_93 12 (ga_push (.int 2) 13) := gs_iconst (by decide +kernel : decode mi_93.2.1 12 = .ok (.iconst 2, 1)) (by decide) rfl
theorem s_93_13 {K : gC} : gOk K g_Ms mi_93 13 (ga_bin (fun x y => x + y) 14) := gs_iadd (by decide +kernel : decode mi_93.2.1 13 = .ok (.iadd, 1)) rfl
theorem s_93_14 {K : gC} : gOk K g_Ms mi_93 14 (ga_callV 7 92 1 17) := gs_callV gcls_7 (gce_X7_isThere (by decide) (by decide)) gw_791 gw_793 gw_18 (by decide +kernel : decode mi_93.2.1 14 = .ok (.invokevirtual 121, 3)) rfl
theorem s_93_17 {K : gC} : gOk K g_Ms mi_93 17 (ga_if (fun x => decide (¬ x = 0)) 22 20) := gs_if_ne (by decide +kernel : decode mi_93.2.1 17 = .ok (.ifCond .ne 5, 3)) (by decide) rfl
theorem s_93_20 {K : gC} : gOk K g_Ms mi_93 20 (ga_push (.int 0) 21) := gs_iconst (by decide +kernel : decode mi_93.2.1 20 = .ok (.iconst 0, 1)) (by decide) rfl
theorem s_93_21 {K : gC} : gOk K g_Ms mi_93 21 (ga_zret) := gs_zret (by decide +kernel : decode mi_93.2.1 21 = .ok (.ireturn, 1)) rfl rfl rfl
theorem s_93_22 {K : gC} : gOk K g_Ms mi_93 22 (ga_aload 0 23) := gs_aload_n (by decide +kernel : decode mi_93.2.1 22 = .ok (.aload_n 0, 1)) rfl rfl
theorem s_93_23 {K : gC} : gOk K g_Ms mi_93 23 (ga_getR 7 17 26) := gs_getR gcls_7 (by decide) (by decide) gw_673 (by decide +kernel : decode mi_93.2.1 23 = .ok (.getfield 29, 3)) rfl
theorem s_93_26 {K : gC} : gOk K g_Ms mi_93 26 (ga_iload 1 27) := gs_iload_n (by decide +kernel : decode mi_93.2.1 26 = .ok (.iload_n 1, 1)) rfl rfl
theorem s_93_27 {K : gC} : gOk K g_Ms mi_93 27 (ga_push (.int 1) 28) := gs_iconst (by decide +kernel : decode mi_93.2.1 27 = .ok (.iconst 1, 1)) (by decide) rfl
theorem s_93_28 {K : gC} : gOk K g_Ms mi_93 28 (ga_bin (fun x y => x + y) 29) := gs_iadd (by decide +kernel : decode mi_93.2.1 28 = .ok (.iadd, 1)) rfl
theorem s_93_29 {K : gC} : gOk K g_Ms mi_93 29 (ga_iald 30) := gs_iald (by decide +kernel : decode mi_93.2.1 29 = .ok (.iaload, 1)) rfl
theorem s_93_30 {K : gC} : gOk K g_Ms mi_93 30 (ga_aload 0 31) := gs_aload_n (by decide +kernel : decode mi_93.2.1 30 = .ok (.aload_n 0, 1)) rfl rfl
theorem s_93_31 {K : gC} : gOk K g_Ms mi_93 31 (ga_getR 7 17 34) := gs_getR gcls_7 (by decide) (by decide) gw_673 (by decide +kernel : decode mi_93.2.1 31 = .ok (.getfield 29, 3)) rfl
theorem s_93_34 {K : gC} : gOk K g_Ms mi_93 34 (ga_iload 1 35) := gs_iload_n (by decide +kernel : decode mi_93.2.1 34 = .ok (.iload_n 1, 1)) rfl rfl
theorem s_93_35 {K : gC} : gOk K g_Ms mi_93 35 (ga_push (.int 2) 36) := gs_iconst (by decide +kernel : decode mi_93.2.1 35 = .ok (.iconst 2, 1)) (by decide) rfl
theorem s_93_36 {K : gC} : gOk K g_Ms mi_93 36 (ga_bin (fun x y => x + y) 37) := gs_iadd (by decide +kernel : decode mi_93.2.1 36 = .ok (.iadd, 1)) rfl
theorem s_93_37 {K : gC} : gOk K g_Ms mi_93 37 (ga_iald 38) := gs_iald (by decide +kernel : decode mi_93.2.1 37 = .ok (.iaload, 1)) rfl
theorem s_93_38 {K : gC} : gOk K g_Ms mi_93 38 (ga_cmp (fun x y => decide (¬ x = y)) 46 41) := gs_cmp_ne (by decide +kernel : decode mi_93.2.1 38 = .ok (.if_icmp .ne 8, 3)) (by decide) rfl
theorem s_93_41 {K : gC} : gOk K g_Ms mi_93 41 (ga_aload 0 42) := gs_aload_n (by decide +kernel : decode mi_93.2.1 41 = .ok (.aload_n 0, 1)) rfl rfl
theorem s_93_42 {K : gC} : gOk K g_Ms mi_93 42 (ga_callV 7 90 0 45) := gs_callV gcls_7 (gce_X7_fails (by decide) (by decide)) gw_799 gw_801 gw_20 (by decide +kernel : decode mi_93.2.1 42 = .ok (.invokevirtual 111, 3)) rfl
theorem s_93_45 {K : gC} : gOk K g_Ms mi_93 45 (ga_zret) := gs_zret (by decide +kernel : decode mi_93.2.1 45 = .ok (.ireturn, 1)) rfl rfl rfl
theorem s_93_46 {K : gC} : gOk K g_Ms mi_93 46 (ga_aload 0 47) := gs_aload_n (by decide +kernel : decode mi_93.2.1 46 = .ok (.aload_n 0, 1)) rfl rfl
theorem s_93_47 {K : gC} : gOk K g_Ms mi_93 47 (ga_iload 1 48) := gs_iload_n (by decide +kernel : decode mi_93.2.1 47 = .ok (.iload_n 1, 1)) rfl rfl
theorem s_93_48 {K : gC} : gOk K g_Ms mi_93 48 (ga_push (.int 3) 49) := gs_iconst (by decide +kernel : decode mi_93.2.1 48 = .ok (.iconst 3, 1)) (by decide) rfl
theorem s_93_49 {K : gC} : gOk K g_Ms mi_93 49 (ga_bin (fun x y => x + y) 50) := gs_iadd (by decide +kernel : decode mi_93.2.1 49 = .ok (.iadd, 1)) rfl
theorem s_93_50 {K : gC} : gOk K g_Ms mi_93 50 (ga_push (.int 1) 51) := gs_iconst (by decide +kernel : decode mi_93.2.1 50 = .ok (.iconst 1, 1)) (by decide) rfl
theorem s_93_51 {K : gC} : gOk K g_Ms mi_93 51 (ga_push (.int 9) 53) := gs_bipush (by decide +kernel : decode mi_93.2.1 51 = .ok (.bipush 9, 2)) (by decide) rfl
theorem s_93_53 {K : gC} : gOk K g_Ms mi_93 53 (ga_callV 7 91 3 56) := gs_callV gcls_7 (gce_X7_isNumber (by decide) (by decide)) gw_795 gw_797 gw_19 (by decide +kernel : decode mi_93.2.1 53 = .ok (.invokevirtual 118, 3)) rfl
theorem s_93_56 {K : gC} : gOk K g_Ms mi_93 56 (ga_zret) := gs_zret (by decide +kernel : decode mi_93.2.1 56 = .ok (.ireturn, 1)) rfl rfl rfl
theorem ok_93 {K : gC} : ∀ e ∈ t_93, gOk K g_Ms mi_93 e.1 e.2 := by
  unfold t_93
  simp only [List.forall_mem_cons, List.not_mem_nil, false_implies, implies_true, and_true]
  exact ⟨s_93_0, s_93_1, s_93_2, s_93_3, s_93_4, s_93_7, s_93_10, s_93_11, s_93_12, s_93_13, s_93_14, s_93_17, s_93_20, s_93_21, s_93_22, s_93_23, s_93_26, s_93_27, s_93_28, s_93_29, s_93_30, s_93_31, s_93_34, s_93_35, s_93_36, s_93_37, s_93_38, s_93_41, s_93_42, s_93_45, s_93_46, s_93_47, s_93_48, s_93_49, s_93_50, s_93_51, s_93_53, s_93_56⟩
theorem s_94_0 {K : gC} : gOk K g_Ms mi_94 0 (ga_aload 0 1) := gs_aload_n (by decide +kernel : decode mi_94.2.1 0 = .ok (.aload_n 0, 1)) rfl rfl
theorem s_94_1 {K : gC} : gOk K g_Ms mi_94 1 (ga_callV 7 89 0 4) := gs_callV gcls_7 (gce_X7_nextToken (by decide) (by decide)) gw_771 gw_773 gw_17 (by decide +kernel : decode mi_94.2.1 1 = .ok (.invokevirtual 108, 3)) rfl
theorem s_94_4 {K : gC} : gOk K g_Ms mi_94 4 (ga_aload 0 5) := gs_aload_n (by decide +kernel : decode mi_94.2.1 4 = .ok (.aload_n 0, 1)) rfl rfl
theorem s_94_5 {K : gC} : gOk K g_Ms mi_94 5 (ga_getL 7 11 8) := gs_getL gcls_7 (by decide) (by decide) gw_667 (by decide +kernel : decode mi_94.2.1 5 = .ok (.getfield 91, 3)) rfl
theorem s_94_8 {K : gC} : gOk K g_Ms mi_94 8 (ga_push (.long 8740238) 11) := gs_ldc2 (by decide +kernel : decode mi_94.2.1 8 = .ok (.ldc2_w 125, 3)) gw_781 rfl
theorem s_94_11 {K : gC} : gOk K g_Ms mi_94 11 (ga_lcmp 12) := gs_lcmp (by decide +kernel : decode mi_94.2.1 11 = .ok (.lcmp, 1)) rfl
theorem s_94_12 {K : gC} : gOk K g_Ms mi_94 12 (ga_if (fun x => decide (¬ x = 0)) 19 15) := gs_if_ne (by decide +kernel : decode mi_94.2.1 12 = .ok (.ifCond .ne 7, 3)) (by decide) rfl
theorem s_94_15 {K : gC} : gOk K g_Ms mi_94 15 (ga_push (.int 0) 16) := gs_iconst (by decide +kernel : decode mi_94.2.1 15 = .ok (.iconst 0, 1)) (by decide) rfl
theorem s_94_16 {K : gC} : gOk K g_Ms mi_94 16 (ga_goto 80) := gs_goto (by decide +kernel : decode mi_94.2.1 16 = .ok (.goto 64, 3)) (by decide)
theorem s_94_19 {K : gC} : gOk K g_Ms mi_94 19 (ga_aload 0 20) := gs_aload_n (by decide +kernel : decode mi_94.2.1 19 = .ok (.aload_n 0, 1)) rfl rfl
theorem s_94_20 {K : gC} : gOk K g_Ms mi_94 20 (ga_getL 7 11 23) := gs_getL gcls_7 (by decide) (by decide) gw_667 (by decide +kernel : decode mi_94.2.1 20 = .ok (.getfield 91, 3)) rfl
theorem s_94_23 {K : gC} : gOk K g_Ms mi_94 23 (ga_push (.long 82410) 26) := gs_ldc2 (by decide +kernel : decode mi_94.2.1 23 = .ok (.ldc2_w 127, 3)) gw_782 rfl
theorem s_94_26 {K : gC} : gOk K g_Ms mi_94 26 (ga_lcmp 27) := gs_lcmp (by decide +kernel : decode mi_94.2.1 26 = .ok (.lcmp, 1)) rfl
theorem s_94_27 {K : gC} : gOk K g_Ms mi_94 27 (ga_if (fun x => decide (¬ x = 0)) 34 30) := gs_if_ne (by decide +kernel : decode mi_94.2.1 27 = .ok (.ifCond .ne 7, 3)) (by decide) rfl
theorem s_94_30 {K : gC} : gOk K g_Ms mi_94 30 (ga_push (.int 1) 31) := gs_iconst (by decide +kernel : decode mi_94.2.1 30 = .ok (.iconst 1, 1)) (by decide) rfl
theorem s_94_31 {K : gC} : gOk K g_Ms mi_94 31 (ga_goto 80) := gs_goto (by decide +kernel : decode mi_94.2.1 31 = .ok (.goto 49, 3)) (by decide)
theorem s_94_34 {K : gC} : gOk K g_Ms mi_94 34 (ga_aload 0 35) := gs_aload_n (by decide +kernel : decode mi_94.2.1 34 = .ok (.aload_n 0, 1)) rfl rfl
theorem s_94_35 {K : gC} : gOk K g_Ms mi_94 35 (ga_getL 7 11 38) := gs_getL gcls_7 (by decide) (by decide) gw_667 (by decide +kernel : decode mi_94.2.1 35 = .ok (.getfield 91, 3)) rfl
theorem s_94_38 {K : gC} : gOk K g_Ms mi_94 38 (ga_push (.long 279109042) 41) := gs_ldc2 (by decide +kernel : decode mi_94.2.1 38 = .ok (.ldc2_w 129, 3)) gw_783 rfl
theorem s_94_41 {K : gC} : gOk K g_Ms mi_94 41 (ga_lcmp 42) := gs_lcmp (by decide +kernel : decode mi_94.2.1 41 = .ok (.lcmp, 1)) rfl
theorem s_94_42 {K : gC} : gOk K g_Ms mi_94 42 (ga_if (fun x => decide (¬ x = 0)) 49 45) := gs_if_ne (by decide +kernel : decode mi_94.2.1 42 = .ok (.ifCond .ne 7, 3)) (by decide) rfl
theorem s_94_45 {K : gC} : gOk K g_Ms mi_94 45 (ga_push (.int 2) 46) := gs_iconst (by decide +kernel : decode mi_94.2.1 45 = .ok (.iconst 2, 1)) (by decide) rfl
theorem s_94_46 {K : gC} : gOk K g_Ms mi_94 46 (ga_goto 80) := gs_goto (by decide +kernel : decode mi_94.2.1 46 = .ok (.goto 34, 3)) (by decide)
theorem s_94_49 {K : gC} : gOk K g_Ms mi_94 49 (ga_aload 0 50) := gs_aload_n (by decide +kernel : decode mi_94.2.1 49 = .ok (.aload_n 0, 1)) rfl rfl
theorem s_94_50 {K : gC} : gOk K g_Ms mi_94 50 (ga_getL 7 11 53) := gs_getL gcls_7 (by decide) (by decide) gw_667 (by decide +kernel : decode mi_94.2.1 50 = .ok (.getfield 91, 3)) rfl
theorem s_94_53 {K : gC} : gOk K g_Ms mi_94 53 (ga_push (.long 1776129921) 56) := gs_ldc2 (by decide +kernel : decode mi_94.2.1 53 = .ok (.ldc2_w 131, 3)) gw_784 rfl
theorem s_94_56 {K : gC} : gOk K g_Ms mi_94 56 (ga_lcmp 57) := gs_lcmp (by decide +kernel : decode mi_94.2.1 56 = .ok (.lcmp, 1)) rfl
theorem s_94_57 {K : gC} : gOk K g_Ms mi_94 57 (ga_if (fun x => decide (¬ x = 0)) 64 60) := gs_if_ne (by decide +kernel : decode mi_94.2.1 57 = .ok (.ifCond .ne 7, 3)) (by decide) rfl
theorem s_94_60 {K : gC} : gOk K g_Ms mi_94 60 (ga_push (.int 3) 61) := gs_iconst (by decide +kernel : decode mi_94.2.1 60 = .ok (.iconst 3, 1)) (by decide) rfl
theorem s_94_61 {K : gC} : gOk K g_Ms mi_94 61 (ga_goto 80) := gs_goto (by decide +kernel : decode mi_94.2.1 61 = .ok (.goto 19, 3)) (by decide)
theorem s_94_64 {K : gC} : gOk K g_Ms mi_94 64 (ga_aload 0 65) := gs_aload_n (by decide +kernel : decode mi_94.2.1 64 = .ok (.aload_n 0, 1)) rfl rfl
theorem s_94_65 {K : gC} : gOk K g_Ms mi_94 65 (ga_getL 7 11 68) := gs_getL gcls_7 (by decide) (by decide) gw_667 (by decide +kernel : decode mi_94.2.1 65 = .ok (.getfield 91, 3)) rfl
theorem s_94_68 {K : gC} : gOk K g_Ms mi_94 68 (ga_push (.long 1834209) 71) := gs_ldc2 (by decide +kernel : decode mi_94.2.1 68 = .ok (.ldc2_w 133, 3)) gw_785 rfl
theorem s_94_71 {K : gC} : gOk K g_Ms mi_94 71 (ga_lcmp 72) := gs_lcmp (by decide +kernel : decode mi_94.2.1 71 = .ok (.lcmp, 1)) rfl
theorem s_94_72 {K : gC} : gOk K g_Ms mi_94 72 (ga_if (fun x => decide (¬ x = 0)) 79 75) := gs_if_ne (by decide +kernel : decode mi_94.2.1 72 = .ok (.ifCond .ne 7, 3)) (by decide) rfl
theorem s_94_75 {K : gC} : gOk K g_Ms mi_94 75 (ga_push (.int 4) 76) := gs_iconst (by decide +kernel : decode mi_94.2.1 75 = .ok (.iconst 4, 1)) (by decide) rfl
theorem s_94_76 {K : gC} : gOk K g_Ms mi_94 76 (ga_goto 80) := gs_goto (by decide +kernel : decode mi_94.2.1 76 = .ok (.goto 4, 3)) (by decide)
theorem s_94_79 {K : gC} : gOk K g_Ms mi_94 79 (ga_push (.int (-1)) 80) := gs_iconst (by decide +kernel : decode mi_94.2.1 79 = .ok (.iconst (-1), 1)) (by decide) rfl
theorem s_94_80 {K : gC} : gOk K g_Ms mi_94 80 (ga_istore 2 81) := gs_istore_n (by decide +kernel : decode mi_94.2.1 80 = .ok (.istore_n 2, 1)) rfl rfl
theorem s_94_81 {K : gC} : gOk K g_Ms mi_94 81 (ga_aload 0 82) := gs_aload_n (by decide +kernel : decode mi_94.2.1 81 = .ok (.aload_n 0, 1)) rfl rfl
theorem s_94_82 {K : gC} : gOk K g_Ms mi_94 82 (ga_getL 7 11 85) := gs_getL gcls_7 (by decide) (by decide) gw_667 (by decide +kernel : decode mi_94.2.1 82 = .ok (.getfield 91, 3)) rfl
theorem s_94_85 {K : gC} : gOk K g_Ms mi_94 85 (ga_push (.long 4786) 88) := gs_ldc2 (by decide +kernel : decode mi_94.2.1 85 = .ok (.ldc2_w 135, 3)) gw_786 rfl
theorem s_94_88 {K : gC} : gOk K g_Ms mi_94 88 (ga_lcmp 89) := gs_lcmp (by decide +kernel : decode mi_94.2.1 88 = .ok (.lcmp, 1)) rfl
theorem s_94_89 {K : gC} : gOk K g_Ms mi_94 89 (ga_if (fun x => decide (¬ x = 0)) 96 92) := gs_if_ne (by decide +kernel : decode mi_94.2.1 89 = .ok (.ifCond .ne 7, 3)) (by decide) rfl
theorem s_94_92 {K : gC} : gOk K g_Ms mi_94 92 (ga_push (.int 5) 93) := gs_iconst (by decide +kernel : decode mi_94.2.1 92 = .ok (.iconst 5, 1)) (by decide) rfl
theorem s_94_93 {K : gC} : gOk K g_Ms mi_94 93 (ga_goto 161) := gs_goto (by decide +kernel : decode mi_94.2.1 93 = .ok (.goto 68, 3)) (by decide)
theorem s_94_96 {K : gC} : gOk K g_Ms mi_94 96 (ga_aload 0 97) := gs_aload_n (by decide +kernel : decode mi_94.2.1 96 = .ok (.aload_n 0, 1)) rfl rfl
theorem s_94_97 {K : gC} : gOk K g_Ms mi_94 97 (ga_getL 7 11 100) := gs_getL gcls_7 (by decide) (by decide) gw_667 (by decide +kernel : decode mi_94.2.1 97 = .ok (.getfield 91, 3)) rfl
theorem s_94_100 {K : gC} : gOk K g_Ms mi_94 100 (ga_push (.long 3554408) 103) := gs_ldc2 (by decide +kernel : decode mi_94.2.1 100 = .ok (.ldc2_w 137, 3)) gw_787 rfl
theorem s_94_103 {K : gC} : gOk K g_Ms mi_94 103 (ga_lcmp 104) := gs_lcmp (by decide +kernel : decode mi_94.2.1 103 = .ok (.lcmp, 1)) rfl
theorem s_94_104 {K : gC} : gOk K g_Ms mi_94 104 (ga_if (fun x => decide (¬ x = 0)) 112 107) := gs_if_ne (by decide +kernel : decode mi_94.2.1 104 = .ok (.ifCond .ne 8, 3)) (by decide) rfl
theorem s_94_107 {K : gC} : gOk K g_Ms mi_94 107 (ga_push (.int 6) 109) := gs_bipush (by decide +kernel : decode mi_94.2.1 107 = .ok (.bipush 6, 2)) (by decide) rfl
theorem s_94_109 {K : gC} : gOk K g_Ms mi_94 109 (ga_goto 161) := gs_goto (by decide +kernel : decode mi_94.2.1 109 = .ok (.goto 52, 3)) (by decide)
theorem s_94_112 {K : gC} : gOk K g_Ms mi_94 112 (ga_aload 0 113) := gs_aload_n (by decide +kernel : decode mi_94.2.1 112 = .ok (.aload_n 0, 1)) rfl rfl
theorem s_94_113 {K : gC} : gOk K g_Ms mi_94 113 (ga_getL 7 11 116) := gs_getL gcls_7 (by decide) (by decide) gw_667 (by decide +kernel : decode mi_94.2.1 113 = .ok (.getfield 91, 3)) rfl
theorem s_94_116 {K : gC} : gOk K g_Ms mi_94 116 (ga_push (.long 36250510761) 119) := gs_ldc2 (by decide +kernel : decode mi_94.2.1 116 = .ok (.ldc2_w 139, 3)) gw_788 rfl
theorem s_94_119 {K : gC} : gOk K g_Ms mi_94 119 (ga_lcmp 120) := gs_lcmp (by decide +kernel : decode mi_94.2.1 119 = .ok (.lcmp, 1)) rfl
theorem s_94_120 {K : gC} : gOk K g_Ms mi_94 120 (ga_if (fun x => decide (¬ x = 0)) 128 123) := gs_if_ne (by decide +kernel : decode mi_94.2.1 120 = .ok (.ifCond .ne 8, 3)) (by decide) rfl
theorem s_94_123 {K : gC} : gOk K g_Ms mi_94 123 (ga_push (.int 7) 125) := gs_bipush (by decide +kernel : decode mi_94.2.1 123 = .ok (.bipush 7, 2)) (by decide) rfl
theorem s_94_125 {K : gC} : gOk K g_Ms mi_94 125 (ga_goto 161) := gs_goto (by decide +kernel : decode mi_94.2.1 125 = .ok (.goto 36, 3)) (by decide)
theorem s_94_128 {K : gC} : gOk K g_Ms mi_94 128 (ga_aload 0 129) := gs_aload_n (by decide +kernel : decode mi_94.2.1 128 = .ok (.aload_n 0, 1)) rfl rfl
theorem s_94_129 {K : gC} : gOk K g_Ms mi_94 129 (ga_getL 7 11 132) := gs_getL gcls_7 (by decide) (by decide) gw_667 (by decide +kernel : decode mi_94.2.1 129 = .ok (.getfield 91, 3)) rfl
theorem s_94_132 {K : gC} : gOk K g_Ms mi_94 132 (ga_push (.long 4351177) 135) := gs_ldc2 (by decide +kernel : decode mi_94.2.1 132 = .ok (.ldc2_w 141, 3)) gw_789 rfl
theorem s_94_135 {K : gC} : gOk K g_Ms mi_94 135 (ga_lcmp 136) := gs_lcmp (by decide +kernel : decode mi_94.2.1 135 = .ok (.lcmp, 1)) rfl
theorem s_94_136 {K : gC} : gOk K g_Ms mi_94 136 (ga_if (fun x => decide (¬ x = 0)) 144 139) := gs_if_ne (by decide +kernel : decode mi_94.2.1 136 = .ok (.ifCond .ne 8, 3)) (by decide) rfl
theorem s_94_139 {K : gC} : gOk K g_Ms mi_94 139 (ga_push (.int 8) 141) := gs_bipush (by decide +kernel : decode mi_94.2.1 139 = .ok (.bipush 8, 2)) (by decide) rfl
theorem s_94_141 {K : gC} : gOk K g_Ms mi_94 141 (ga_goto 161) := gs_goto (by decide +kernel : decode mi_94.2.1 141 = .ok (.goto 20, 3)) (by decide)
theorem s_94_144 {K : gC} : gOk K g_Ms mi_94 144 (ga_aload 0 145) := gs_aload_n (by decide +kernel : decode mi_94.2.1 144 = .ok (.aload_n 0, 1)) rfl rfl
theorem s_94_145 {K : gC} : gOk K g_Ms mi_94 145 (ga_getL 7 11 148) := gs_getL gcls_7 (by decide) (by decide) gw_667 (by decide +kernel : decode mi_94.2.1 145 = .ok (.getfield 91, 3)) rfl
theorem s_94_148 {K : gC} : gOk K g_Ms mi_94 148 (ga_push (.long 778955) 151) := gs_ldc2 (by decide +kernel : decode mi_94.2.1 148 = .ok (.ldc2_w 143, 3)) gw_790 rfl
theorem s_94_151 {K : gC} : gOk K g_Ms mi_94 151 (ga_lcmp 152) := gs_lcmp (by decide +kernel : decode mi_94.2.1 151 = .ok (.lcmp, 1)) rfl
theorem s_94_152 {K : gC} : gOk K g_Ms mi_94 152 (ga_if (fun x => decide (¬ x = 0)) 160 155) := gs_if_ne (by decide +kernel : decode mi_94.2.1 152 = .ok (.ifCond .ne 8, 3)) (by decide) rfl
theorem s_94_155 {K : gC} : gOk K g_Ms mi_94 155 (ga_push (.int 9) 157) := gs_bipush (by decide +kernel : decode mi_94.2.1 155 = .ok (.bipush 9, 2)) (by decide) rfl
theorem s_94_157 {K : gC} : gOk K g_Ms mi_94 157 (ga_goto 161) := gs_goto (by decide +kernel : decode mi_94.2.1 157 = .ok (.goto 4, 3)) (by decide)
theorem s_94_160 {K : gC} : gOk K g_Ms mi_94 160 (ga_push (.int (-1)) 161) := gs_iconst (by decide +kernel : decode mi_94.2.1 160 = .ok (.iconst (-1), 1)) (by decide) rfl
theorem s_94_161 {K : gC} : gOk K g_Ms mi_94 161 (ga_istore 3 162) := gs_istore_n (by decide +kernel : decode mi_94.2.1 161 = .ok (.istore_n 3, 1)) rfl rfl
theorem s_94_162 {K : gC} : gOk K g_Ms mi_94 162 (ga_aload 0 163) := gs_aload_n (by decide +kernel : decode mi_94.2.1 162 = .ok (.aload_n 0, 1)) rfl rfl
theorem s_94_163 {K : gC} : gOk K g_Ms mi_94 163 (ga_getR 7 17 166) := gs_getR gcls_7 (by decide) (by decide) gw_673 (by decide +kernel : decode mi_94.2.1 163 = .ok (.getfield 29, 3)) rfl
theorem s_94_166 {K : gC} : gOk K g_Ms mi_94 166 (ga_iload 1 167) := gs_iload_n (by decide +kernel : decode mi_94.2.1 166 = .ok (.iload_n 1, 1)) rfl rfl
theorem s_94_167 {K : gC} : gOk K g_Ms mi_94 167 (ga_iload 2 168) := gs_iload_n (by decide +kernel : decode mi_94.2.1 167 = .ok (.iload_n 2, 1)) rfl rfl
theorem s_94_168 {K : gC} : gOk K g_Ms mi_94 168 (ga_push (.int (-1)) 169) := gs_iconst (by decide +kernel : decode mi_94.2.1 168 = .ok (.iconst (-1), 1)) (by decide) rfl
theorem s_94_169 {K : gC} : gOk K g_Ms mi_94 169 (ga_cmp (fun x y => decide (¬ x = y)) 176 172) := gs_cmp_ne (by decide +kernel : decode mi_94.2.1 169 = .ok (.if_icmp .ne 7, 3)) (by decide) rfl
theorem s_94_172 {K : gC} : gOk K g_Ms mi_94 172 (ga_iload 3 173) := gs_iload_n (by decide +kernel : decode mi_94.2.1 172 = .ok (.iload_n 3, 1)) rfl rfl
theorem s_94_173 {K : gC} : gOk K g_Ms mi_94 173 (ga_goto 177) := gs_goto (by decide +kernel : decode mi_94.2.1 173 = .ok (.goto 4, 3)) (by decide)
theorem s_94_176 {K : gC} : gOk K g_Ms mi_94 176 (ga_iload 2 177) := gs_iload_n (by decide +kernel : decode mi_94.2.1 176 = .ok (.iload_n 2, 1)) rfl rfl
theorem s_94_177 {K : gC} : gOk K g_Ms mi_94 177 (ga_iast 178) := gs_iast (by decide +kernel : decode mi_94.2.1 177 = .ok (.iastore, 1)) rfl
theorem s_94_178 {K : gC} : gOk K g_Ms mi_94 178 (ga_aload 0 179) := gs_aload_n (by decide +kernel : decode mi_94.2.1 178 = .ok (.aload_n 0, 1)) rfl rfl
theorem s_94_179 {K : gC} : gOk K g_Ms mi_94 179 (ga_getR 7 17 182) := gs_getR gcls_7 (by decide) (by decide) gw_673 (by decide +kernel : decode mi_94.2.1 179 = .ok (.getfield 29, 3)) rfl
theorem s_94_182 {K : gC} : gOk K g_Ms mi_94 182 (ga_iload 1 183) := gs_iload_n (by decide +kernel : decode mi_94.2.1 182 = .ok (.iload_n 1, 1)) rfl rfl
theorem s_94_183 {K : gC} : gOk K g_Ms mi_94 183 (ga_iald 184) := gs_iald (by decide +kernel : decode mi_94.2.1 183 = .ok (.iaload, 1)) rfl
theorem s_94_184 {K : gC} : gOk K g_Ms mi_94 184 (ga_switch 0 [240, 240, 240, 240, 269, 269, 269, 271, 300, 306] 314) := gs_switch (by decide +kernel : decode mi_94.2.1 184 = .ok (.tableswitch 130 0 9 #[56, 56, 56, 56, 85, 85, 85, 87, 116, 122], 56)) (by decide) (by decide) (by decide)
theorem s_94_240 {K : gC} : gOk K g_Ms mi_94 240 (ga_aload 0 241) := gs_aload_n (by decide +kernel : decode mi_94.2.1 240 = .ok (.aload_n 0, 1)) rfl rfl
theorem s_94_241 {K : gC} : gOk K g_Ms mi_94 241 (ga_iload 1 242) := gs_iload_n (by decide +kernel : decode mi_94.2.1 241 = .ok (.iload_n 1, 1)) rfl rfl
theorem s_94_242 {K : gC} : gOk K g_Ms mi_94 242 (ga_push (.int 1) 243) := gs_iconst (by decide +kernel : decode mi_94.2.1 242 = .ok (.iconst 1, 1)) (by decide) rfl
theorem s_94_243 {K : gC} : gOk K g_Ms mi_94 243 (ga_bin (fun x y => x + y) 244) := gs_iadd (by decide +kernel : decode mi_94.2.1 243 = .ok (.iadd, 1)) rfl
theorem s_94_244 {K : gC} : gOk K g_Ms mi_94 244 (ga_callV 7 92 1 247) := gs_callV gcls_7 (gce_X7_isThere (by decide) (by decide)) gw_791 gw_793 gw_18 (by decide +kernel : decode mi_94.2.1 244 = .ok (.invokevirtual 121, 3)) rfl
theorem s_94_247 {K : gC} : gOk K g_Ms mi_94 247 (ga_if (fun x => decide (x = 0)) 267 250) := gs_if_eq (by decide +kernel : decode mi_94.2.1 247 = .ok (.ifCond .eq 20, 3)) (by decide) rfl
theorem s_94_250 {K : gC} : gOk K g_Ms mi_94 250 (ga_aload 0 251) := gs_aload_n (by decide +kernel : decode mi_94.2.1 250 = .ok (.aload_n 0, 1)) rfl rfl
theorem s_94_251 {K : gC} : gOk K g_Ms mi_94 251 (ga_iload 1 252) := gs_iload_n (by decide +kernel : decode mi_94.2.1 251 = .ok (.iload_n 1, 1)) rfl rfl
theorem s_94_252 {K : gC} : gOk K g_Ms mi_94 252 (ga_push (.int 2) 253) := gs_iconst (by decide +kernel : decode mi_94.2.1 252 = .ok (.iconst 2, 1)) (by decide) rfl
theorem s_94_253 {K : gC} : gOk K g_Ms mi_94 253 (ga_bin (fun x y => x + y) 254) := gs_iadd (by decide +kernel : decode mi_94.2.1 253 = .ok (.iadd, 1)) rfl
theorem s_94_254 {K : gC} : gOk K g_Ms mi_94 254 (ga_push (.int 1) 255) := gs_iconst (by decide +kernel : decode mi_94.2.1 254 = .ok (.iconst 1, 1)) (by decide) rfl
theorem s_94_255 {K : gC} : gOk K g_Ms mi_94 255 (ga_push (.int 20) 257) := gs_bipush (by decide +kernel : decode mi_94.2.1 255 = .ok (.bipush 20, 2)) (by decide) rfl
theorem s_94_257 {K : gC} : gOk K g_Ms mi_94 257 (ga_callV 7 91 3 260) := gs_callV gcls_7 (gce_X7_isNumber (by decide) (by decide)) gw_795 gw_797 gw_19 (by decide +kernel : decode mi_94.2.1 257 = .ok (.invokevirtual 118, 3)) rfl
theorem s_94_260 {K : gC} : gOk K g_Ms mi_94 260 (ga_if (fun x => decide (x = 0)) 267 263) := gs_if_eq (by decide +kernel : decode mi_94.2.1 260 = .ok (.ifCond .eq 7, 3)) (by decide) rfl
theorem s_94_263 {K : gC} : gOk K g_Ms mi_94 263 (ga_push (.int 1) 264) := gs_iconst (by decide +kernel : decode mi_94.2.1 263 = .ok (.iconst 1, 1)) (by decide) rfl
theorem s_94_264 {K : gC} : gOk K g_Ms mi_94 264 (ga_goto 268) := gs_goto (by decide +kernel : decode mi_94.2.1 264 = .ok (.goto 4, 3)) (by decide)
theorem s_94_267 {K : gC} : gOk K g_Ms mi_94 267 (ga_push (.int 0) 268) := gs_iconst (by decide +kernel : decode mi_94.2.1 267 = .ok (.iconst 0, 1)) (by decide) rfl
theorem s_94_268 {K : gC} : gOk K g_Ms mi_94 268 (ga_zret) := gs_zret (by decide +kernel : decode mi_94.2.1 268 = .ok (.ireturn, 1)) rfl rfl rfl
theorem s_94_269 {K : gC} : gOk K g_Ms mi_94 269 (ga_push (.int 1) 270) := gs_iconst (by decide +kernel : decode mi_94.2.1 269 = .ok (.iconst 1, 1)) (by decide) rfl
theorem s_94_270 {K : gC} : gOk K g_Ms mi_94 270 (ga_zret) := gs_zret (by decide +kernel : decode mi_94.2.1 270 = .ok (.ireturn, 1)) rfl rfl rfl
theorem s_94_271 {K : gC} : gOk K g_Ms mi_94 271 (ga_aload 0 272) := gs_aload_n (by decide +kernel : decode mi_94.2.1 271 = .ok (.aload_n 0, 1)) rfl rfl
theorem s_94_272 {K : gC} : gOk K g_Ms mi_94 272 (ga_iload 1 273) := gs_iload_n (by decide +kernel : decode mi_94.2.1 272 = .ok (.iload_n 1, 1)) rfl rfl
theorem s_94_273 {K : gC} : gOk K g_Ms mi_94 273 (ga_push (.int 1) 274) := gs_iconst (by decide +kernel : decode mi_94.2.1 273 = .ok (.iconst 1, 1)) (by decide) rfl
theorem s_94_274 {K : gC} : gOk K g_Ms mi_94 274 (ga_bin (fun x y => x + y) 275) := gs_iadd (by decide +kernel : decode mi_94.2.1 274 = .ok (.iadd, 1)) rfl
theorem s_94_275 {K : gC} : gOk K g_Ms mi_94 275 (ga_push (.int 2) 276) := gs_iconst (by decide +kernel : decode mi_94.2.1 275 = .ok (.iconst 2, 1)) (by decide) rfl
theorem s_94_276 {K : gC} : gOk K g_Ms mi_94 276 (ga_push (.int 10) 278) := gs_bipush (by decide +kernel : decode mi_94.2.1 276 = .ok (.bipush 10, 2)) (by decide) rfl
theorem s_94_278 {K : gC} : gOk K g_Ms mi_94 278 (ga_callV 7 91 3 281) := gs_callV gcls_7 (gce_X7_isNumber (by decide) (by decide)) gw_795 gw_797 gw_19 (by decide +kernel : decode mi_94.2.1 278 = .ok (.invokevirtual 118, 3)) rfl
theorem s_94_281 {K : gC} : gOk K g_Ms mi_94 281 (ga_if (fun x => decide (¬ x = 0)) 286 284) := gs_if_ne (by decide +kernel : decode mi_94.2.1 281 = .ok (.ifCond .ne 5, 3)) (by decide) rfl
theorem s_94_284 {K : gC} : gOk K g_Ms mi_94 284 (ga_push (.int 0) 285) := gs_iconst (by decide +kernel : decode mi_94.2.1 284 = .ok (.iconst 0, 1)) (by decide) rfl
theorem s_94_285 {K : gC} : gOk K g_Ms mi_94 285 (ga_zret) := gs_zret (by decide +kernel : decode mi_94.2.1 285 = .ok (.ireturn, 1)) rfl rfl rfl
theorem s_94_286 {K : gC} : gOk K g_Ms mi_94 286 (ga_aload 0 287) := gs_aload_n (by decide +kernel : decode mi_94.2.1 286 = .ok (.aload_n 0, 1)) rfl rfl
theorem s_94_287 {K : gC} : gOk K g_Ms mi_94 287 (ga_aload 0 288) := gs_aload_n (by decide +kernel : decode mi_94.2.1 287 = .ok (.aload_n 0, 1)) rfl rfl
theorem s_94_288 {K : gC} : gOk K g_Ms mi_94 288 (ga_getR 7 17 291) := gs_getR gcls_7 (by decide) (by decide) gw_673 (by decide +kernel : decode mi_94.2.1 288 = .ok (.getfield 29, 3)) rfl
theorem s_94_291 {K : gC} : gOk K g_Ms mi_94 291 (ga_iload 1 292) := gs_iload_n (by decide +kernel : decode mi_94.2.1 291 = .ok (.iload_n 1, 1)) rfl rfl
theorem s_94_292 {K : gC} : gOk K g_Ms mi_94 292 (ga_push (.int 1) 293) := gs_iconst (by decide +kernel : decode mi_94.2.1 292 = .ok (.iconst 1, 1)) (by decide) rfl
theorem s_94_293 {K : gC} : gOk K g_Ms mi_94 293 (ga_bin (fun x y => x + y) 294) := gs_iadd (by decide +kernel : decode mi_94.2.1 293 = .ok (.iadd, 1)) rfl
theorem s_94_294 {K : gC} : gOk K g_Ms mi_94 294 (ga_iald 295) := gs_iald (by decide +kernel : decode mi_94.2.1 294 = .ok (.iaload, 1)) rfl
theorem s_94_295 {K : gC} : gOk K g_Ms mi_94 295 (ga_putI 7 16 298) := gs_putI gcls_7 (by decide) (by decide) rfl rfl gw_672 (by decide +kernel : decode mi_94.2.1 295 = .ok (.putfield 115, 3)) rfl
theorem s_94_298 {K : gC} : gOk K g_Ms mi_94 298 (ga_push (.int 1) 299) := gs_iconst (by decide +kernel : decode mi_94.2.1 298 = .ok (.iconst 1, 1)) (by decide) rfl
theorem s_94_299 {K : gC} : gOk K g_Ms mi_94 299 (ga_zret) := gs_zret (by decide +kernel : decode mi_94.2.1 299 = .ok (.ireturn, 1)) rfl rfl rfl
theorem s_94_300 {K : gC} : gOk K g_Ms mi_94 300 (ga_aload 0 301) := gs_aload_n (by decide +kernel : decode mi_94.2.1 300 = .ok (.aload_n 0, 1)) rfl rfl
theorem s_94_301 {K : gC} : gOk K g_Ms mi_94 301 (ga_iload 1 302) := gs_iload_n (by decide +kernel : decode mi_94.2.1 301 = .ok (.iload_n 1, 1)) rfl rfl
theorem s_94_302 {K : gC} : gOk K g_Ms mi_94 302 (ga_callV 7 93 1 305) := gs_callV gcls_7 (gce_X7_isHearing (by decide) (by decide)) gw_803 gw_805 gw_21 (by decide +kernel : decode mi_94.2.1 302 = .ok (.invokevirtual 145, 3)) rfl
theorem s_94_305 {K : gC} : gOk K g_Ms mi_94 305 (ga_zret) := gs_zret (by decide +kernel : decode mi_94.2.1 305 = .ok (.ireturn, 1)) rfl rfl rfl
theorem s_94_306 {K : gC} : gOk K g_Ms mi_94 306 (ga_aload 0 307) := gs_aload_n (by decide +kernel : decode mi_94.2.1 306 = .ok (.aload_n 0, 1)) rfl rfl
theorem s_94_307 {K : gC} : gOk K g_Ms mi_94 307 (ga_iload 1 308) := gs_iload_n (by decide +kernel : decode mi_94.2.1 307 = .ok (.iload_n 1, 1)) rfl rfl
theorem s_94_308 {K : gC} : gOk K g_Ms mi_94 308 (ga_push (.int 1) 309) := gs_iconst (by decide +kernel : decode mi_94.2.1 308 = .ok (.iconst 1, 1)) (by decide) rfl
theorem s_94_309 {K : gC} : gOk K g_Ms mi_94 309 (ga_bin (fun x y => x + y) 310) := gs_iadd (by decide +kernel : decode mi_94.2.1 309 = .ok (.iadd, 1)) rfl
theorem s_94_310 {K : gC} : gOk K g_Ms mi_94 310 (ga_callV 7 92 1 313) := gs_callV gcls_7 (gce_X7_isThere (by decide) (by decide)) gw_791 gw_793 gw_18 (by decide +kernel : decode mi_94.2.1 310 = .ok (.invokevirtual 121, 3)) rfl
theorem s_94_313 {K : gC} : gOk K g_Ms mi_94 313 (ga_zret) := gs_zret (by decide +kernel : decode mi_94.2.1 313 = .ok (.ireturn, 1)) rfl rfl rfl
theorem s_94_314 {K : gC} : gOk K g_Ms mi_94 314 (ga_aload 0 315) := gs_aload_n (by decide +kernel : decode mi_94.2.1 314 = .ok (.aload_n 0, 1)) rfl rfl
theorem s_94_315 {K : gC} : gOk K g_Ms mi_94 315 (ga_callV 7 90 0 318) := gs_callV gcls_7 (gce_X7_fails (by decide) (by decide)) gw_799 gw_801 gw_20 (by decide +kernel : decode mi_94.2.1 315 = .ok (.invokevirtual 111, 3)) rfl
theorem s_94_318 {K : gC} : gOk K g_Ms mi_94 318 (ga_zret) := gs_zret (by decide +kernel : decode mi_94.2.1 318 = .ok (.ireturn, 1)) rfl rfl rfl
set_option maxRecDepth 1000000 in
theorem ok_94 {K : gC} : ∀ e ∈ t_94, gOk K g_Ms mi_94 e.1 e.2 := by
  unfold t_94
  simp only [List.forall_mem_cons, List.not_mem_nil, false_implies, implies_true, and_true]
  exact ⟨s_94_0, s_94_1, s_94_4, s_94_5, s_94_8, s_94_11, s_94_12, s_94_15, s_94_16, s_94_19, s_94_20, s_94_23, s_94_26, s_94_27, s_94_30, s_94_31, s_94_34, s_94_35, s_94_38, s_94_41, s_94_42, s_94_45, s_94_46, s_94_49, s_94_50, s_94_53, s_94_56, s_94_57, s_94_60, s_94_61, s_94_64, s_94_65, s_94_68, s_94_71, s_94_72, s_94_75, s_94_76, s_94_79, s_94_80, s_94_81, s_94_82, s_94_85, s_94_88, s_94_89, s_94_92, s_94_93, s_94_96, s_94_97, s_94_100, s_94_103, s_94_104, s_94_107, s_94_109, s_94_112, s_94_113, s_94_116, s_94_119, s_94_120, s_94_123, s_94_125, s_94_128, s_94_129, s_94_132, s_94_135, s_94_136, s_94_139, s_94_141, s_94_144, s_94_145, s_94_148, s_94_151, s_94_152, s_94_155, s_94_157, s_94_160, s_94_161, s_94_162, s_94_163, s_94_166, s_94_167, s_94_168, s_94_169, s_94_172, s_94_173, s_94_176, s_94_177, s_94_178, s_94_179, s_94_182, s_94_183, s_94_184, s_94_240, s_94_241, s_94_242, s_94_243, s_94_244, s_94_247, s_94_250, s_94_251, s_94_252, s_94_253, s_94_254, s_94_255, s_94_257, s_94_260, s_94_263, s_94_264, s_94_267, s_94_268, s_94_269, s_94_270, s_94_271, s_94_272, s_94_273, s_94_274, s_94_275, s_94_276, s_94_278, s_94_281, s_94_284, s_94_285, s_94_286, s_94_287, s_94_288, s_94_291, s_94_292, s_94_293, s_94_294, s_94_295, s_94_298, s_94_299, s_94_300, s_94_301, s_94_302, s_94_305, s_94_306, s_94_307, s_94_308, s_94_309, s_94_310, s_94_313, s_94_314, s_94_315, s_94_318⟩
theorem s_95_0 {K : gC} : gOk K g_Ms mi_95 0 (ga_aload 0 1) := gs_aload_n (by decide +kernel : decode mi_95.2.1 0 = .ok (.aload_n 0, 1)) rfl rfl
theorem s_95_1 {K : gC} : gOk K g_Ms mi_95 1 (ga_push (.int 0) 2) := gs_iconst (by decide +kernel : decode mi_95.2.1 1 = .ok (.iconst 0, 1)) (by decide) rfl
theorem s_95_2 {K : gC} : gOk K g_Ms mi_95 2 (ga_putI 7 9 5) := gs_putI gcls_7 (by decide) (by decide) rfl rfl gw_665 (by decide +kernel : decode mi_95.2.1 2 = .ok (.putfield 77, 3)) rfl
theorem s_95_5 {K : gC} : gOk K g_Ms mi_95 5 (ga_aload 0 6) := gs_aload_n (by decide +kernel : decode mi_95.2.1 5 = .ok (.aload_n 0, 1)) rfl rfl
theorem s_95_6 {K : gC} : gOk K g_Ms mi_95 6 (ga_push (.int 0) 7) := gs_iconst (by decide +kernel : decode mi_95.2.1 6 = .ok (.iconst 0, 1)) (by decide) rfl
theorem s_95_7 {K : gC} : gOk K g_Ms mi_95 7 (ga_putI 7 15 10) := gs_putI gcls_7 (by decide) (by decide) rfl rfl gw_671 (by decide +kernel : decode mi_95.2.1 7 = .ok (.putfield 148, 3)) rfl
theorem s_95_10 {K : gC} : gOk K g_Ms mi_95 10 (ga_aload 0 11) := gs_aload_n (by decide +kernel : decode mi_95.2.1 10 = .ok (.aload_n 0, 1)) rfl rfl
theorem s_95_11 {K : gC} : gOk K g_Ms mi_95 11 (ga_aload 0 12) := gs_aload_n (by decide +kernel : decode mi_95.2.1 11 = .ok (.aload_n 0, 1)) rfl rfl
theorem s_95_12 {K : gC} : gOk K g_Ms mi_95 12 (ga_getI 7 0 15) := gs_getI gcls_7 (by decide) (by decide) gw_656 (by decide +kernel : decode mi_95.2.1 12 = .ok (.getfield 7, 3)) rfl
theorem s_95_15 {K : gC} : gOk K g_Ms mi_95 15 (ga_putI 7 16 18) := gs_putI gcls_7 (by decide) (by decide) rfl rfl gw_672 (by decide +kernel : decode mi_95.2.1 15 = .ok (.putfield 115, 3)) rfl
theorem s_95_18 {K : gC} : gOk K g_Ms mi_95 18 (ga_push (.int 1) 19) := gs_iconst (by decide +kernel : decode mi_95.2.1 18 = .ok (.iconst 1, 1)) (by decide) rfl
theorem s_95_19 {K : gC} : gOk K g_Ms mi_95 19 (ga_istore 1 20) := gs_istore_n (by decide +kernel : decode mi_95.2.1 19 = .ok (.istore_n 1, 1)) rfl rfl
theorem s_95_20 {K : gC} : gOk K g_Ms mi_95 20 (ga_iload 1 21) := gs_iload_n (by decide +kernel : decode mi_95.2.1 20 = .ok (.iload_n 1, 1)) rfl rfl
theorem s_95_21 {K : gC} : gOk K g_Ms mi_95 21 (ga_if (fun x => decide (x = 0)) 82 24) := gs_if_eq (by decide +kernel : decode mi_95.2.1 21 = .ok (.ifCond .eq 61, 3)) (by decide) rfl
theorem s_95_24 {K : gC} : gOk K g_Ms mi_95 24 (ga_aload 0 25) := gs_aload_n (by decide +kernel : decode mi_95.2.1 24 = .ok (.aload_n 0, 1)) rfl rfl
theorem s_95_25 {K : gC} : gOk K g_Ms mi_95 25 (ga_push (.int 4) 26) := gs_iconst (by decide +kernel : decode mi_95.2.1 25 = .ok (.iconst 4, 1)) (by decide) rfl
theorem s_95_26 {K : gC} : gOk K g_Ms mi_95 26 (ga_aload 0 27) := gs_aload_n (by decide +kernel : decode mi_95.2.1 26 = .ok (.aload_n 0, 1)) rfl rfl
theorem s_95_27 {K : gC} : gOk K g_Ms mi_95 27 (ga_getI 7 15 30) := gs_getI gcls_7 (by decide) (by decide) gw_671 (by decide +kernel : decode mi_95.2.1 27 = .ok (.getfield 148, 3)) rfl
theorem s_95_30 {K : gC} : gOk K g_Ms mi_95 30 (ga_bin (fun x y => x * y) 31) := gs_imul (by decide +kernel : decode mi_95.2.1 30 = .ok (.imul, 1)) rfl
theorem s_95_31 {K : gC} : gOk K g_Ms mi_95 31 (ga_callV 7 94 1 34) := gs_callV gcls_7 (gce_X7_isLine (by decide) (by decide)) gw_767 gw_769 gw_16 (by decide +kernel : decode mi_95.2.1 31 = .ok (.invokevirtual 151, 3)) rfl
theorem s_95_34 {K : gC} : gOk K g_Ms mi_95 34 (ga_if (fun x => decide (¬ x = 0)) 39 37) := gs_if_ne (by decide +kernel : decode mi_95.2.1 34 = .ok (.ifCond .ne 5, 3)) (by decide) rfl
theorem s_95_37 {K : gC} : gOk K g_Ms mi_95 37 (ga_push (.int 0) 38) := gs_iconst (by decide +kernel : decode mi_95.2.1 37 = .ok (.iconst 0, 1)) (by decide) rfl
theorem s_95_38 {K : gC} : gOk K g_Ms mi_95 38 (ga_zret) := gs_zret (by decide +kernel : decode mi_95.2.1 38 = .ok (.ireturn, 1)) rfl rfl rfl
theorem s_95_39 {K : gC} : gOk K g_Ms mi_95 39 (ga_aload 0 40) := gs_aload_n (by decide +kernel : decode mi_95.2.1 39 = .ok (.aload_n 0, 1)) rfl rfl
theorem s_95_40 {K : gC} : gOk K g_Ms mi_95 40 (ga_dup 41) := gs_dup (by decide +kernel : decode mi_95.2.1 40 = .ok (.dup, 1)) rfl
theorem s_95_41 {K : gC} : gOk K g_Ms mi_95 41 (ga_getI 7 15 44) := gs_getI gcls_7 (by decide) (by decide) gw_671 (by decide +kernel : decode mi_95.2.1 41 = .ok (.getfield 148, 3)) rfl
theorem s_95_44 {K : gC} : gOk K g_Ms mi_95 44 (ga_push (.int 1) 45) := gs_iconst (by decide +kernel : decode mi_95.2.1 44 = .ok (.iconst 1, 1)) (by decide) rfl
theorem s_95_45 {K : gC} : gOk K g_Ms mi_95 45 (ga_bin (fun x y => x + y) 46) := gs_iadd (by decide +kernel : decode mi_95.2.1 45 = .ok (.iadd, 1)) rfl
theorem s_95_46 {K : gC} : gOk K g_Ms mi_95 46 (ga_putI 7 15 49) := gs_putI gcls_7 (by decide) (by decide) rfl rfl gw_671 (by decide +kernel : decode mi_95.2.1 46 = .ok (.putfield 148, 3)) rfl
theorem s_95_49 {K : gC} : gOk K g_Ms mi_95 49 (ga_aload 0 50) := gs_aload_n (by decide +kernel : decode mi_95.2.1 49 = .ok (.aload_n 0, 1)) rfl rfl
theorem s_95_50 {K : gC} : gOk K g_Ms mi_95 50 (ga_callV 7 89 0 53) := gs_callV gcls_7 (gce_X7_nextToken (by decide) (by decide)) gw_771 gw_773 gw_17 (by decide +kernel : decode mi_95.2.1 50 = .ok (.invokevirtual 108, 3)) rfl
theorem s_95_53 {K : gC} : gOk K g_Ms mi_95 53 (ga_aload 0 54) := gs_aload_n (by decide +kernel : decode mi_95.2.1 53 = .ok (.aload_n 0, 1)) rfl rfl
theorem s_95_54 {K : gC} : gOk K g_Ms mi_95 54 (ga_getL 7 11 57) := gs_getL gcls_7 (by decide) (by decide) gw_667 (by decide +kernel : decode mi_95.2.1 54 = .ok (.getfield 91, 3)) rfl
theorem s_95_57 {K : gC} : gOk K g_Ms mi_95 57 (ga_push (.long (-3)) 60) := gs_ldc2 (by decide +kernel : decode mi_95.2.1 57 = .ok (.ldc2_w 103, 3)) gw_780 rfl
theorem s_95_60 {K : gC} : gOk K g_Ms mi_95 60 (ga_lcmp 61) := gs_lcmp (by decide +kernel : decode mi_95.2.1 60 = .ok (.lcmp, 1)) rfl
theorem s_95_61 {K : gC} : gOk K g_Ms mi_95 61 (ga_if (fun x => decide (¬ x = 0)) 77 64) := gs_if_ne (by decide +kernel : decode mi_95.2.1 61 = .ok (.ifCond .ne 16, 3)) (by decide) rfl
theorem s_95_64 {K : gC} : gOk K g_Ms mi_95 64 (ga_aload 0 65) := gs_aload_n (by decide +kernel : decode mi_95.2.1 64 = .ok (.aload_n 0, 1)) rfl rfl
theorem s_95_65 {K : gC} : gOk K g_Ms mi_95 65 (ga_getI 7 15 68) := gs_getI gcls_7 (by decide) (by decide) gw_671 (by decide +kernel : decode mi_95.2.1 65 = .ok (.getfield 148, 3)) rfl
theorem s_95_68 {K : gC} : gOk K g_Ms mi_95 68 (ga_push (.int 12) 70) := gs_bipush (by decide +kernel : decode mi_95.2.1 68 = .ok (.bipush 12, 2)) (by decide) rfl
theorem s_95_70 {K : gC} : gOk K g_Ms mi_95 70 (ga_cmp (fun x y => decide (y ≤ x)) 77 73) := gs_cmp_ge (by decide +kernel : decode mi_95.2.1 70 = .ok (.if_icmp .ge 7, 3)) (by decide) rfl
theorem s_95_73 {K : gC} : gOk K g_Ms mi_95 73 (ga_push (.int 1) 74) := gs_iconst (by decide +kernel : decode mi_95.2.1 73 = .ok (.iconst 1, 1)) (by decide) rfl
theorem s_95_74 {K : gC} : gOk K g_Ms mi_95 74 (ga_goto 78) := gs_goto (by decide +kernel : decode mi_95.2.1 74 = .ok (.goto 4, 3)) (by decide)
theorem s_95_77 {K : gC} : gOk K g_Ms mi_95 77 (ga_push (.int 0) 78) := gs_iconst (by decide +kernel : decode mi_95.2.1 77 = .ok (.iconst 0, 1)) (by decide) rfl
theorem s_95_78 {K : gC} : gOk K g_Ms mi_95 78 (ga_istore 1 79) := gs_istore_n (by decide +kernel : decode mi_95.2.1 78 = .ok (.istore_n 1, 1)) rfl rfl
theorem s_95_79 {K : gC} : gOk K g_Ms mi_95 79 (ga_goto 20) := gs_goto (by decide +kernel : decode mi_95.2.1 79 = .ok (.goto (-59), 3)) (by decide)
theorem s_95_82 {K : gC} : gOk K g_Ms mi_95 82 (ga_aload 0 83) := gs_aload_n (by decide +kernel : decode mi_95.2.1 82 = .ok (.aload_n 0, 1)) rfl rfl
theorem s_95_83 {K : gC} : gOk K g_Ms mi_95 83 (ga_getL 7 11 86) := gs_getL gcls_7 (by decide) (by decide) gw_667 (by decide +kernel : decode mi_95.2.1 83 = .ok (.getfield 91, 3)) rfl
theorem s_95_86 {K : gC} : gOk K g_Ms mi_95 86 (ga_push (.long (-2)) 89) := gs_ldc2 (by decide +kernel : decode mi_95.2.1 86 = .ok (.ldc2_w 89, 3)) gw_775 rfl
theorem s_95_89 {K : gC} : gOk K g_Ms mi_95 89 (ga_lcmp 90) := gs_lcmp (by decide +kernel : decode mi_95.2.1 89 = .ok (.lcmp, 1)) rfl
theorem s_95_90 {K : gC} : gOk K g_Ms mi_95 90 (ga_if (fun x => decide (x = 0)) 100 93) := gs_if_eq (by decide +kernel : decode mi_95.2.1 90 = .ok (.ifCond .eq 10, 3)) (by decide) rfl
theorem s_95_93 {K : gC} : gOk K g_Ms mi_95 93 (ga_aload 0 94) := gs_aload_n (by decide +kernel : decode mi_95.2.1 93 = .ok (.aload_n 0, 1)) rfl rfl
theorem s_95_94 {K : gC} : gOk K g_Ms mi_95 94 (ga_callV 7 90 0 97) := gs_callV gcls_7 (gce_X7_fails (by decide) (by decide)) gw_799 gw_801 gw_20 (by decide +kernel : decode mi_95.2.1 94 = .ok (.invokevirtual 111, 3)) rfl
theorem s_95_97 {K : gC} : gOk K g_Ms mi_95 97 (ga_if (fun x => decide (x = 0)) 104 100) := gs_if_eq (by decide +kernel : decode mi_95.2.1 97 = .ok (.ifCond .eq 7, 3)) (by decide) rfl
theorem s_95_100 {K : gC} : gOk K g_Ms mi_95 100 (ga_push (.int 1) 101) := gs_iconst (by decide +kernel : decode mi_95.2.1 100 = .ok (.iconst 1, 1)) (by decide) rfl
theorem s_95_101 {K : gC} : gOk K g_Ms mi_95 101 (ga_goto 105) := gs_goto (by decide +kernel : decode mi_95.2.1 101 = .ok (.goto 4, 3)) (by decide)
theorem s_95_104 {K : gC} : gOk K g_Ms mi_95 104 (ga_push (.int 0) 105) := gs_iconst (by decide +kernel : decode mi_95.2.1 104 = .ok (.iconst 0, 1)) (by decide) rfl
theorem s_95_105 {K : gC} : gOk K g_Ms mi_95 105 (ga_zret) := gs_zret (by decide +kernel : decode mi_95.2.1 105 = .ok (.ireturn, 1)) rfl rfl rfl
theorem ok_95 {K : gC} : ∀ e ∈ t_95, gOk K g_Ms mi_95 e.1 e.2 := by
  unfold t_95
  simp only [List.forall_mem_cons, List.not_mem_nil, false_implies, implies_true, and_true]
  exact ⟨s_95_0, s_95_1, s_95_2, s_95_5, s_95_6, s_95_7, s_95_10, s_95_11, s_95_12, s_95_15, s_95_18, s_95_19, s_95_20, s_95_21, s_95_24, s_95_25, s_95_26, s_95_27, s_95_30, s_95_31, s_95_34, s_95_37, s_95_38, s_95_39, s_95_40, s_95_41, s_95_44, s_95_45, s_95_46, s_95_49, s_95_50, s_95_53, s_95_54, s_95_57, s_95_60, s_95_61, s_95_64, s_95_65, s_95_68, s_95_70, s_95_73, s_95_74, s_95_77, s_95_78, s_95_79, s_95_82, s_95_83, s_95_86, s_95_89, s_95_90, s_95_93, s_95_94, s_95_97, s_95_100, s_95_101, s_95_104, s_95_105⟩
theorem s_96_0 {K : gC} : gOk K g_Ms mi_96 0 (ga_aload 0 1) := gs_aload_n (by decide +kernel : decode mi_96.2.1 0 = .ok (.aload_n 0, 1)) rfl rfl
theorem s_96_1 {K : gC} : gOk K g_Ms mi_96 1 (ga_callV 7 95 0 4) := gs_callV gcls_7 (gce_X7_isRead (by decide) (by decide)) gw_763 gw_765 gw_15 (by decide +kernel : decode mi_96.2.1 1 = .ok (.invokevirtual 154, 3)) rfl
theorem s_96_4 {K : gC} : gOk K g_Ms mi_96 4 (ga_if (fun x => decide (x = 0)) 11 7) := gs_if_eq (by decide +kernel : decode mi_96.2.1 4 = .ok (.ifCond .eq 7, 3)) (by decide) rfl
theorem s_96_7 {K : gC} : gOk K g_Ms mi_96 7 (ga_push (.int (-1)) 8) := gs_iconst (by decide +kernel : decode mi_96.2.1 7 = .ok (.iconst (-1), 1)) (by decide) rfl
theorem s_96_8 {K : gC} : gOk K g_Ms mi_96 8 (ga_goto 15) := gs_goto (by decide +kernel : decode mi_96.2.1 8 = .ok (.goto 7, 3)) (by decide)
theorem s_96_11 {K : gC} : gOk K g_Ms mi_96 11 (ga_aload 0 12) := gs_aload_n (by decide +kernel : decode mi_96.2.1 11 = .ok (.aload_n 0, 1)) rfl rfl
theorem s_96_12 {K : gC} : gOk K g_Ms mi_96 12 (ga_getI 7 14 15) := gs_getI gcls_7 (by decide) (by decide) gw_670 (by decide +kernel : decode mi_96.2.1 12 = .ok (.getfield 105, 3)) rfl
theorem s_96_15 {K : gC} : gOk K g_Ms mi_96 15 (ga_iret) := gs_iret (by decide +kernel : decode mi_96.2.1 15 = .ok (.ireturn, 1)) rfl
theorem ok_96 {K : gC} : ∀ e ∈ t_96, gOk K g_Ms mi_96 e.1 e.2 := by
  unfold t_96
  simp only [List.forall_mem_cons, List.not_mem_nil, false_implies, implies_true, and_true]
  exact ⟨s_96_0, s_96_1, s_96_4, s_96_7, s_96_8, s_96_11, s_96_12, s_96_15⟩
theorem s_97_0 {K : gC} : gOk K g_Ms mi_97 0 (ga_aload 0 1) := gs_aload_n (by decide +kernel : decode mi_97.2.1 0 = .ok (.aload_n 0, 1)) rfl rfl
theorem s_97_1 {K : gC} : gOk K g_Ms mi_97 1 (ga_getR 7 17 4) := gs_getR gcls_7 (by decide) (by decide) gw_673 (by decide +kernel : decode mi_97.2.1 1 = .ok (.getfield 29, 3)) rfl
theorem s_97_4 {K : gC} : gOk K g_Ms mi_97 4 (ga_iload 1 5) := gs_iload_n (by decide +kernel : decode mi_97.2.1 4 = .ok (.iload_n 1, 1)) rfl rfl
theorem s_97_5 {K : gC} : gOk K g_Ms mi_97 5 (ga_push (.int 1) 6) := gs_iconst (by decide +kernel : decode mi_97.2.1 5 = .ok (.iconst 1, 1)) (by decide) rfl
theorem s_97_6 {K : gC} : gOk K g_Ms mi_97 6 (ga_bin (fun x y => x + y) 7) := gs_iadd (by decide +kernel : decode mi_97.2.1 6 = .ok (.iadd, 1)) rfl
theorem s_97_7 {K : gC} : gOk K g_Ms mi_97 7 (ga_iald 8) := gs_iald (by decide +kernel : decode mi_97.2.1 7 = .ok (.iaload, 1)) rfl
theorem s_97_8 {K : gC} : gOk K g_Ms mi_97 8 (ga_istore 2 9) := gs_istore_n (by decide +kernel : decode mi_97.2.1 8 = .ok (.istore_n 2, 1)) rfl rfl
theorem s_97_9 {K : gC} : gOk K g_Ms mi_97 9 (ga_aload 0 10) := gs_aload_n (by decide +kernel : decode mi_97.2.1 9 = .ok (.aload_n 0, 1)) rfl rfl
theorem s_97_10 {K : gC} : gOk K g_Ms mi_97 10 (ga_getR 7 17 13) := gs_getR gcls_7 (by decide) (by decide) gw_673 (by decide +kernel : decode mi_97.2.1 10 = .ok (.getfield 29, 3)) rfl
theorem s_97_13 {K : gC} : gOk K g_Ms mi_97 13 (ga_iload 1 14) := gs_iload_n (by decide +kernel : decode mi_97.2.1 13 = .ok (.iload_n 1, 1)) rfl rfl
theorem s_97_14 {K : gC} : gOk K g_Ms mi_97 14 (ga_iald 15) := gs_iald (by decide +kernel : decode mi_97.2.1 14 = .ok (.iaload, 1)) rfl
theorem s_97_15 {K : gC} : gOk K g_Ms mi_97 15 (ga_switch 4 [52, 52, 52, 67, 75, 106] 123) := gs_switch (by decide +kernel : decode mi_97.2.1 15 = .ok (.tableswitch 108 4 9 #[37, 37, 37, 52, 60, 91], 37)) (by decide) (by decide) (by decide)
theorem s_97_52 {K : gC} : gOk K g_Ms mi_97 52 (ga_aload 0 53) := gs_aload_n (by decide +kernel : decode mi_97.2.1 52 = .ok (.aload_n 0, 1)) rfl rfl
theorem s_97_53 {K : gC} : gOk K g_Ms mi_97 53 (ga_aload 0 54) := gs_aload_n (by decide +kernel : decode mi_97.2.1 53 = .ok (.aload_n 0, 1)) rfl rfl
theorem s_97_54 {K : gC} : gOk K g_Ms mi_97 54 (ga_getR 7 17 57) := gs_getR gcls_7 (by decide) (by decide) gw_673 (by decide +kernel : decode mi_97.2.1 54 = .ok (.getfield 29, 3)) rfl
theorem s_97_57 {K : gC} : gOk K g_Ms mi_97 57 (ga_iload 1 58) := gs_iload_n (by decide +kernel : decode mi_97.2.1 57 = .ok (.iload_n 1, 1)) rfl rfl
theorem s_97_58 {K : gC} : gOk K g_Ms mi_97 58 (ga_iald 59) := gs_iald (by decide +kernel : decode mi_97.2.1 58 = .ok (.iaload, 1)) rfl
theorem s_97_59 {K : gC} : gOk K g_Ms mi_97 59 (ga_push (.int 4) 60) := gs_iconst (by decide +kernel : decode mi_97.2.1 59 = .ok (.iconst 4, 1)) (by decide) rfl
theorem s_97_60 {K : gC} : gOk K g_Ms mi_97 60 (ga_bin (fun x y => x - y) 61) := gs_isub (by decide +kernel : decode mi_97.2.1 60 = .ok (.isub, 1)) rfl
theorem s_97_61 {K : gC} : gOk K g_Ms mi_97 61 (ga_putI 7 6 64) := gs_putI gcls_7 (by decide) (by decide) rfl rfl gw_662 (by decide +kernel : decode mi_97.2.1 61 = .ok (.putfield 69, 3)) rfl
theorem s_97_64 {K : gC} : gOk K g_Ms mi_97 64 (ga_goto 149) := gs_goto (by decide +kernel : decode mi_97.2.1 64 = .ok (.goto 85, 3)) (by decide)
theorem s_97_67 {K : gC} : gOk K g_Ms mi_97 67 (ga_aload 0 68) := gs_aload_n (by decide +kernel : decode mi_97.2.1 67 = .ok (.aload_n 0, 1)) rfl rfl
theorem s_97_68 {K : gC} : gOk K g_Ms mi_97 68 (ga_iload 2 69) := gs_iload_n (by decide +kernel : decode mi_97.2.1 68 = .ok (.iload_n 2, 1)) rfl rfl
theorem s_97_69 {K : gC} : gOk K g_Ms mi_97 69 (ga_callV 7 86 1 72) := gs_callV gcls_7 (gce_X7_plain (by decide) (by decide)) gw_652 gw_654 gw_14 (by decide +kernel : decode mi_97.2.1 69 = .ok (.invokevirtual 61, 3)) rfl
theorem s_97_72 {K : gC} : gOk K g_Ms mi_97 72 (ga_goto 149) := gs_goto (by decide +kernel : decode mi_97.2.1 72 = .ok (.goto 77, 3)) (by decide)
theorem s_97_75 {K : gC} : gOk K g_Ms mi_97 75 (ga_aload 0 76) := gs_aload_n (by decide +kernel : decode mi_97.2.1 75 = .ok (.aload_n 0, 1)) rfl rfl
theorem s_97_76 {K : gC} : gOk K g_Ms mi_97 76 (ga_getR 7 1 79) := gs_getR gcls_7 (by decide) (by decide) gw_657 (by decide +kernel : decode mi_97.2.1 76 = .ok (.getfield 13, 3)) rfl
theorem s_97_79 {K : gC} : gOk K g_Ms mi_97 79 (ga_iload 2 80) := gs_iload_n (by decide +kernel : decode mi_97.2.1 79 = .ok (.iload_n 2, 1)) rfl rfl
theorem s_97_80 {K : gC} : gOk K g_Ms mi_97 80 (ga_aload 0 81) := gs_aload_n (by decide +kernel : decode mi_97.2.1 80 = .ok (.aload_n 0, 1)) rfl rfl
theorem s_97_81 {K : gC} : gOk K g_Ms mi_97 81 (ga_getR 7 17 84) := gs_getR gcls_7 (by decide) (by decide) gw_673 (by decide +kernel : decode mi_97.2.1 81 = .ok (.getfield 29, 3)) rfl
theorem s_97_84 {K : gC} : gOk K g_Ms mi_97 84 (ga_iload 1 85) := gs_iload_n (by decide +kernel : decode mi_97.2.1 84 = .ok (.iload_n 1, 1)) rfl rfl
theorem s_97_85 {K : gC} : gOk K g_Ms mi_97 85 (ga_push (.int 2) 86) := gs_iconst (by decide +kernel : decode mi_97.2.1 85 = .ok (.iconst 2, 1)) (by decide) rfl
theorem s_97_86 {K : gC} : gOk K g_Ms mi_97 86 (ga_bin (fun x y => x + y) 87) := gs_iadd (by decide +kernel : decode mi_97.2.1 86 = .ok (.iadd, 1)) rfl
theorem s_97_87 {K : gC} : gOk K g_Ms mi_97 87 (ga_iald 88) := gs_iald (by decide +kernel : decode mi_97.2.1 87 = .ok (.iaload, 1)) rfl
theorem s_97_88 {K : gC} : gOk K g_Ms mi_97 88 (ga_iast 89) := gs_iast (by decide +kernel : decode mi_97.2.1 88 = .ok (.iastore, 1)) rfl
theorem s_97_89 {K : gC} : gOk K g_Ms mi_97 89 (ga_aload 0 90) := gs_aload_n (by decide +kernel : decode mi_97.2.1 89 = .ok (.aload_n 0, 1)) rfl rfl
theorem s_97_90 {K : gC} : gOk K g_Ms mi_97 90 (ga_getR 7 2 93) := gs_getR gcls_7 (by decide) (by decide) gw_658 (by decide +kernel : decode mi_97.2.1 90 = .ok (.getfield 17, 3)) rfl
theorem s_97_93 {K : gC} : gOk K g_Ms mi_97 93 (ga_iload 2 94) := gs_iload_n (by decide +kernel : decode mi_97.2.1 93 = .ok (.iload_n 2, 1)) rfl rfl
theorem s_97_94 {K : gC} : gOk K g_Ms mi_97 94 (ga_aload 0 95) := gs_aload_n (by decide +kernel : decode mi_97.2.1 94 = .ok (.aload_n 0, 1)) rfl rfl
theorem s_97_95 {K : gC} : gOk K g_Ms mi_97 95 (ga_getR 7 17 98) := gs_getR gcls_7 (by decide) (by decide) gw_673 (by decide +kernel : decode mi_97.2.1 95 = .ok (.getfield 29, 3)) rfl
theorem s_97_98 {K : gC} : gOk K g_Ms mi_97 98 (ga_iload 1 99) := gs_iload_n (by decide +kernel : decode mi_97.2.1 98 = .ok (.iload_n 1, 1)) rfl rfl
theorem s_97_99 {K : gC} : gOk K g_Ms mi_97 99 (ga_push (.int 3) 100) := gs_iconst (by decide +kernel : decode mi_97.2.1 99 = .ok (.iconst 3, 1)) (by decide) rfl
theorem s_97_100 {K : gC} : gOk K g_Ms mi_97 100 (ga_bin (fun x y => x + y) 101) := gs_iadd (by decide +kernel : decode mi_97.2.1 100 = .ok (.iadd, 1)) rfl
theorem s_97_101 {K : gC} : gOk K g_Ms mi_97 101 (ga_iald 102) := gs_iald (by decide +kernel : decode mi_97.2.1 101 = .ok (.iaload, 1)) rfl
theorem s_97_102 {K : gC} : gOk K g_Ms mi_97 102 (ga_iast 103) := gs_iast (by decide +kernel : decode mi_97.2.1 102 = .ok (.iastore, 1)) rfl
theorem s_97_103 {K : gC} : gOk K g_Ms mi_97 103 (ga_goto 149) := gs_goto (by decide +kernel : decode mi_97.2.1 103 = .ok (.goto 46, 3)) (by decide)
theorem s_97_106 {K : gC} : gOk K g_Ms mi_97 106 (ga_aload 0 107) := gs_aload_n (by decide +kernel : decode mi_97.2.1 106 = .ok (.aload_n 0, 1)) rfl rfl
theorem s_97_107 {K : gC} : gOk K g_Ms mi_97 107 (ga_getR 7 1 110) := gs_getR gcls_7 (by decide) (by decide) gw_657 (by decide +kernel : decode mi_97.2.1 107 = .ok (.getfield 13, 3)) rfl
theorem s_97_110 {K : gC} : gOk K g_Ms mi_97 110 (ga_iload 2 111) := gs_iload_n (by decide +kernel : decode mi_97.2.1 110 = .ok (.iload_n 2, 1)) rfl rfl
theorem s_97_111 {K : gC} : gOk K g_Ms mi_97 111 (ga_push (.int (-1)) 112) := gs_iconst (by decide +kernel : decode mi_97.2.1 111 = .ok (.iconst (-1), 1)) (by decide) rfl
theorem s_97_112 {K : gC} : gOk K g_Ms mi_97 112 (ga_iast 113) := gs_iast (by decide +kernel : decode mi_97.2.1 112 = .ok (.iastore, 1)) rfl
theorem s_97_113 {K : gC} : gOk K g_Ms mi_97 113 (ga_aload 0 114) := gs_aload_n (by decide +kernel : decode mi_97.2.1 113 = .ok (.aload_n 0, 1)) rfl rfl
theorem s_97_114 {K : gC} : gOk K g_Ms mi_97 114 (ga_getR 7 2 117) := gs_getR gcls_7 (by decide) (by decide) gw_658 (by decide +kernel : decode mi_97.2.1 114 = .ok (.getfield 17, 3)) rfl
theorem s_97_117 {K : gC} : gOk K g_Ms mi_97 117 (ga_iload 2 118) := gs_iload_n (by decide +kernel : decode mi_97.2.1 117 = .ok (.iload_n 2, 1)) rfl rfl
theorem s_97_118 {K : gC} : gOk K g_Ms mi_97 118 (ga_push (.int 0) 119) := gs_iconst (by decide +kernel : decode mi_97.2.1 118 = .ok (.iconst 0, 1)) (by decide) rfl
theorem s_97_119 {K : gC} : gOk K g_Ms mi_97 119 (ga_iast 120) := gs_iast (by decide +kernel : decode mi_97.2.1 119 = .ok (.iastore, 1)) rfl
theorem s_97_120 {K : gC} : gOk K g_Ms mi_97 120 (ga_goto 149) := gs_goto (by decide +kernel : decode mi_97.2.1 120 = .ok (.goto 29, 3)) (by decide)
theorem s_97_123 {K : gC} : gOk K g_Ms mi_97 123 (ga_aload 0 124) := gs_aload_n (by decide +kernel : decode mi_97.2.1 123 = .ok (.aload_n 0, 1)) rfl rfl
theorem s_97_124 {K : gC} : gOk K g_Ms mi_97 124 (ga_getR 7 3 127) := gs_getR gcls_7 (by decide) (by decide) gw_659 (by decide +kernel : decode mi_97.2.1 124 = .ok (.getfield 20, 3)) rfl
theorem s_97_127 {K : gC} : gOk K g_Ms mi_97 127 (ga_iload 2 128) := gs_iload_n (by decide +kernel : decode mi_97.2.1 127 = .ok (.iload_n 2, 1)) rfl rfl
theorem s_97_128 {K : gC} : gOk K g_Ms mi_97 128 (ga_aload 0 129) := gs_aload_n (by decide +kernel : decode mi_97.2.1 128 = .ok (.aload_n 0, 1)) rfl rfl
theorem s_97_129 {K : gC} : gOk K g_Ms mi_97 129 (ga_getR 7 17 132) := gs_getR gcls_7 (by decide) (by decide) gw_673 (by decide +kernel : decode mi_97.2.1 129 = .ok (.getfield 29, 3)) rfl
theorem s_97_132 {K : gC} : gOk K g_Ms mi_97 132 (ga_iload 1 133) := gs_iload_n (by decide +kernel : decode mi_97.2.1 132 = .ok (.iload_n 1, 1)) rfl rfl
theorem s_97_133 {K : gC} : gOk K g_Ms mi_97 133 (ga_iald 134) := gs_iald (by decide +kernel : decode mi_97.2.1 133 = .ok (.iaload, 1)) rfl
theorem s_97_134 {K : gC} : gOk K g_Ms mi_97 134 (ga_iast 135) := gs_iast (by decide +kernel : decode mi_97.2.1 134 = .ok (.iastore, 1)) rfl
theorem s_97_135 {K : gC} : gOk K g_Ms mi_97 135 (ga_aload 0 136) := gs_aload_n (by decide +kernel : decode mi_97.2.1 135 = .ok (.aload_n 0, 1)) rfl rfl
theorem s_97_136 {K : gC} : gOk K g_Ms mi_97 136 (ga_getR 7 4 139) := gs_getR gcls_7 (by decide) (by decide) gw_660 (by decide +kernel : decode mi_97.2.1 136 = .ok (.getfield 23, 3)) rfl
theorem s_97_139 {K : gC} : gOk K g_Ms mi_97 139 (ga_iload 2 140) := gs_iload_n (by decide +kernel : decode mi_97.2.1 139 = .ok (.iload_n 2, 1)) rfl rfl
theorem s_97_140 {K : gC} : gOk K g_Ms mi_97 140 (ga_aload 0 141) := gs_aload_n (by decide +kernel : decode mi_97.2.1 140 = .ok (.aload_n 0, 1)) rfl rfl
theorem s_97_141 {K : gC} : gOk K g_Ms mi_97 141 (ga_getR 7 17 144) := gs_getR gcls_7 (by decide) (by decide) gw_673 (by decide +kernel : decode mi_97.2.1 141 = .ok (.getfield 29, 3)) rfl
theorem s_97_144 {K : gC} : gOk K g_Ms mi_97 144 (ga_iload 1 145) := gs_iload_n (by decide +kernel : decode mi_97.2.1 144 = .ok (.iload_n 1, 1)) rfl rfl
theorem s_97_145 {K : gC} : gOk K g_Ms mi_97 145 (ga_push (.int 2) 146) := gs_iconst (by decide +kernel : decode mi_97.2.1 145 = .ok (.iconst 2, 1)) (by decide) rfl
theorem s_97_146 {K : gC} : gOk K g_Ms mi_97 146 (ga_bin (fun x y => x + y) 147) := gs_iadd (by decide +kernel : decode mi_97.2.1 146 = .ok (.iadd, 1)) rfl
theorem s_97_147 {K : gC} : gOk K g_Ms mi_97 147 (ga_iald 148) := gs_iald (by decide +kernel : decode mi_97.2.1 147 = .ok (.iaload, 1)) rfl
theorem s_97_148 {K : gC} : gOk K g_Ms mi_97 148 (ga_iast 149) := gs_iast (by decide +kernel : decode mi_97.2.1 148 = .ok (.iastore, 1)) rfl
theorem s_97_149 {K : gC} : gOk K g_Ms mi_97 149 (ga_vret) := gs_vret (by decide +kernel : decode mi_97.2.1 149 = .ok (.return_, 1)) rfl
theorem ok_97 {K : gC} : ∀ e ∈ t_97, gOk K g_Ms mi_97 e.1 e.2 := by
  unfold t_97
  simp only [List.forall_mem_cons, List.not_mem_nil, false_implies, implies_true, and_true]
  exact ⟨s_97_0, s_97_1, s_97_4, s_97_5, s_97_6, s_97_7, s_97_8, s_97_9, s_97_10, s_97_13, s_97_14, s_97_15, s_97_52, s_97_53, s_97_54, s_97_57, s_97_58, s_97_59, s_97_60, s_97_61, s_97_64, s_97_67, s_97_68, s_97_69, s_97_72, s_97_75, s_97_76, s_97_79, s_97_80, s_97_81, s_97_84, s_97_85, s_97_86, s_97_87, s_97_88, s_97_89, s_97_90, s_97_93, s_97_94, s_97_95, s_97_98, s_97_99, s_97_100, s_97_101, s_97_102, s_97_103, s_97_106, s_97_107, s_97_110, s_97_111, s_97_112, s_97_113, s_97_114, s_97_117, s_97_118, s_97_119, s_97_120, s_97_123, s_97_124, s_97_127, s_97_128, s_97_129, s_97_132, s_97_133, s_97_134, s_97_135, s_97_136, s_97_139, s_97_140, s_97_141, s_97_144, s_97_145, s_97_146, s_97_147, s_97_148, s_97_149⟩
theorem s_98_0 {K : gC} : gOk K g_Ms mi_98 0 (ga_aload 0 1) := gs_aload_n (by decide +kernel : decode mi_98.2.1 0 = .ok (.aload_n 0, 1)) rfl rfl
theorem s_98_1 {K : gC} : gOk K g_Ms mi_98 1 (ga_callV 7 95 0 4) := gs_callV gcls_7 (gce_X7_isRead (by decide) (by decide)) gw_763 gw_765 gw_15 (by decide +kernel : decode mi_98.2.1 1 = .ok (.invokevirtual 154, 3)) rfl
theorem s_98_4 {K : gC} : gOk K g_Ms mi_98 4 (ga_if (fun x => decide (¬ x = 0)) 10 7) := gs_if_ne (by decide +kernel : decode mi_98.2.1 4 = .ok (.ifCond .ne 6, 3)) (by decide) rfl
theorem s_98_7 {K : gC} : gOk K g_Ms mi_98 7 (ga_push (.int (-4)) 9) := gs_bipush (by decide +kernel : decode mi_98.2.1 7 = .ok (.bipush (-4), 2)) (by decide) rfl
theorem s_98_9 {K : gC} : gOk K g_Ms mi_98 9 (ga_iret) := gs_iret (by decide +kernel : decode mi_98.2.1 9 = .ok (.ireturn, 1)) rfl
theorem s_98_10 {K : gC} : gOk K g_Ms mi_98 10 (ga_push (.int 0) 11) := gs_iconst (by decide +kernel : decode mi_98.2.1 10 = .ok (.iconst 0, 1)) (by decide) rfl
theorem s_98_11 {K : gC} : gOk K g_Ms mi_98 11 (ga_istore 1 12) := gs_istore_n (by decide +kernel : decode mi_98.2.1 11 = .ok (.istore_n 1, 1)) rfl rfl
theorem s_98_12 {K : gC} : gOk K g_Ms mi_98 12 (ga_iload 1 13) := gs_iload_n (by decide +kernel : decode mi_98.2.1 12 = .ok (.iload_n 1, 1)) rfl rfl
theorem s_98_13 {K : gC} : gOk K g_Ms mi_98 13 (ga_aload 0 14) := gs_aload_n (by decide +kernel : decode mi_98.2.1 13 = .ok (.aload_n 0, 1)) rfl rfl
theorem s_98_14 {K : gC} : gOk K g_Ms mi_98 14 (ga_getI 7 15 17) := gs_getI gcls_7 (by decide) (by decide) gw_671 (by decide +kernel : decode mi_98.2.1 14 = .ok (.getfield 148, 3)) rfl
theorem s_98_17 {K : gC} : gOk K g_Ms mi_98 17 (ga_cmp (fun x y => decide (y ≤ x)) 33 20) := gs_cmp_ge (by decide +kernel : decode mi_98.2.1 17 = .ok (.if_icmp .ge 16, 3)) (by decide) rfl
theorem s_98_20 {K : gC} : gOk K g_Ms mi_98 20 (ga_aload 0 21) := gs_aload_n (by decide +kernel : decode mi_98.2.1 20 = .ok (.aload_n 0, 1)) rfl rfl
theorem s_98_21 {K : gC} : gOk K g_Ms mi_98 21 (ga_push (.int 4) 22) := gs_iconst (by decide +kernel : decode mi_98.2.1 21 = .ok (.iconst 4, 1)) (by decide) rfl
theorem s_98_22 {K : gC} : gOk K g_Ms mi_98 22 (ga_iload 1 23) := gs_iload_n (by decide +kernel : decode mi_98.2.1 22 = .ok (.iload_n 1, 1)) rfl rfl
theorem s_98_23 {K : gC} : gOk K g_Ms mi_98 23 (ga_bin (fun x y => x * y) 24) := gs_imul (by decide +kernel : decode mi_98.2.1 23 = .ok (.imul, 1)) rfl
theorem s_98_24 {K : gC} : gOk K g_Ms mi_98 24 (ga_callV 7 97 1 27) := gs_callV gcls_7 (gce_X7_doLine (by decide) (by decide)) gw_811 gw_813 gw_22 (by decide +kernel : decode mi_98.2.1 24 = .ok (.invokevirtual 157, 3)) rfl
theorem s_98_27 {K : gC} : gOk K g_Ms mi_98 27 (ga_iinc 1 1 30) := gs_iinc (by decide +kernel : decode mi_98.2.1 27 = .ok (.iinc 1 1, 3)) (by decide) rfl
theorem s_98_30 {K : gC} : gOk K g_Ms mi_98 30 (ga_goto 12) := gs_goto (by decide +kernel : decode mi_98.2.1 30 = .ok (.goto (-18), 3)) (by decide)
theorem s_98_33 {K : gC} : gOk K g_Ms mi_98 33 (ga_aload 0 34) := gs_aload_n (by decide +kernel : decode mi_98.2.1 33 = .ok (.aload_n 0, 1)) rfl rfl
theorem s_98_34 {K : gC} : gOk K g_Ms mi_98 34 (ga_push (.int 0) 35) := gs_iconst (by decide +kernel : decode mi_98.2.1 34 = .ok (.iconst 0, 1)) (by decide) rfl
theorem s_98_35 {K : gC} : gOk K g_Ms mi_98 35 (ga_putI 7 7 38) := gs_putI gcls_7 (by decide) (by decide) rfl rfl gw_663 (by decide +kernel : decode mi_98.2.1 35 = .ok (.putfield 72, 3)) rfl
theorem s_98_38 {K : gC} : gOk K g_Ms mi_98 38 (ga_push (.int 0) 39) := gs_iconst (by decide +kernel : decode mi_98.2.1 38 = .ok (.iconst 0, 1)) (by decide) rfl
theorem s_98_39 {K : gC} : gOk K g_Ms mi_98 39 (ga_istore 1 40) := gs_istore_n (by decide +kernel : decode mi_98.2.1 39 = .ok (.istore_n 1, 1)) rfl rfl
theorem s_98_40 {K : gC} : gOk K g_Ms mi_98 40 (ga_iload 1 41) := gs_iload_n (by decide +kernel : decode mi_98.2.1 40 = .ok (.iload_n 1, 1)) rfl rfl
theorem s_98_41 {K : gC} : gOk K g_Ms mi_98 41 (ga_push (.int 10) 43) := gs_bipush (by decide +kernel : decode mi_98.2.1 41 = .ok (.bipush 10, 2)) (by decide) rfl
theorem s_98_43 {K : gC} : gOk K g_Ms mi_98 43 (ga_cmp (fun x y => decide (y ≤ x)) 66 46) := gs_cmp_ge (by decide +kernel : decode mi_98.2.1 43 = .ok (.if_icmp .ge 23, 3)) (by decide) rfl
theorem s_98_46 {K : gC} : gOk K g_Ms mi_98 46 (ga_aload 0 47) := gs_aload_n (by decide +kernel : decode mi_98.2.1 46 = .ok (.aload_n 0, 1)) rfl rfl
theorem s_98_47 {K : gC} : gOk K g_Ms mi_98 47 (ga_getR 7 18 50) := gs_getR gcls_7 (by decide) (by decide) gw_674 (by decide +kernel : decode mi_98.2.1 47 = .ok (.getfield 32, 3)) rfl
theorem s_98_50 {K : gC} : gOk K g_Ms mi_98 50 (ga_iload 1 51) := gs_iload_n (by decide +kernel : decode mi_98.2.1 50 = .ok (.iload_n 1, 1)) rfl rfl
theorem s_98_51 {K : gC} : gOk K g_Ms mi_98 51 (ga_push (.long 0) 52) := gs_lconst (by decide +kernel : decode mi_98.2.1 51 = .ok (.lconst 0, 1)) (by decide) rfl
theorem s_98_52 {K : gC} : gOk K g_Ms mi_98 52 (ga_last 53) := gs_last (by decide +kernel : decode mi_98.2.1 52 = .ok (.lastore, 1)) rfl
theorem s_98_53 {K : gC} : gOk K g_Ms mi_98 53 (ga_aload 0 54) := gs_aload_n (by decide +kernel : decode mi_98.2.1 53 = .ok (.aload_n 0, 1)) rfl rfl
theorem s_98_54 {K : gC} : gOk K g_Ms mi_98 54 (ga_getR 7 19 57) := gs_getR gcls_7 (by decide) (by decide) gw_675 (by decide +kernel : decode mi_98.2.1 54 = .ok (.getfield 36, 3)) rfl
theorem s_98_57 {K : gC} : gOk K g_Ms mi_98 57 (ga_iload 1 58) := gs_iload_n (by decide +kernel : decode mi_98.2.1 57 = .ok (.iload_n 1, 1)) rfl rfl
theorem s_98_58 {K : gC} : gOk K g_Ms mi_98 58 (ga_push (.int 0) 59) := gs_iconst (by decide +kernel : decode mi_98.2.1 58 = .ok (.iconst 0, 1)) (by decide) rfl
theorem s_98_59 {K : gC} : gOk K g_Ms mi_98 59 (ga_iast 60) := gs_iast (by decide +kernel : decode mi_98.2.1 59 = .ok (.iastore, 1)) rfl
theorem s_98_60 {K : gC} : gOk K g_Ms mi_98 60 (ga_iinc 1 1 63) := gs_iinc (by decide +kernel : decode mi_98.2.1 60 = .ok (.iinc 1 1, 3)) (by decide) rfl
theorem s_98_63 {K : gC} : gOk K g_Ms mi_98 63 (ga_goto 40) := gs_goto (by decide +kernel : decode mi_98.2.1 63 = .ok (.goto (-23), 3)) (by decide)
theorem s_98_66 {K : gC} : gOk K g_Ms mi_98 66 (ga_aload 0 67) := gs_aload_n (by decide +kernel : decode mi_98.2.1 66 = .ok (.aload_n 0, 1)) rfl rfl
theorem s_98_67 {K : gC} : gOk K g_Ms mi_98 67 (ga_aload 0 68) := gs_aload_n (by decide +kernel : decode mi_98.2.1 67 = .ok (.aload_n 0, 1)) rfl rfl
theorem s_98_68 {K : gC} : gOk K g_Ms mi_98 68 (ga_getI 7 6 71) := gs_getI gcls_7 (by decide) (by decide) gw_662 (by decide +kernel : decode mi_98.2.1 68 = .ok (.getfield 69, 3)) rfl
theorem s_98_71 {K : gC} : gOk K g_Ms mi_98 71 (ga_putI 7 5 74) := gs_putI gcls_7 (by decide) (by decide) rfl rfl gw_661 (by decide +kernel : decode mi_98.2.1 71 = .ok (.putfield 160, 3)) rfl
theorem s_98_74 {K : gC} : gOk K g_Ms mi_98 74 (ga_aload 0 75) := gs_aload_n (by decide +kernel : decode mi_98.2.1 74 = .ok (.aload_n 0, 1)) rfl rfl
theorem s_98_75 {K : gC} : gOk K g_Ms mi_98 75 (ga_push (.int 0) 76) := gs_iconst (by decide +kernel : decode mi_98.2.1 75 = .ok (.iconst 0, 1)) (by decide) rfl
theorem s_98_76 {K : gC} : gOk K g_Ms mi_98 76 (ga_putI 7 20 79) := gs_putI gcls_7 (by decide) (by decide) rfl rfl gw_676 (by decide +kernel : decode mi_98.2.1 76 = .ok (.putfield 163, 3)) rfl
theorem s_98_79 {K : gC} : gOk K g_Ms mi_98 79 (ga_aload 0 80) := gs_aload_n (by decide +kernel : decode mi_98.2.1 79 = .ok (.aload_n 0, 1)) rfl rfl
theorem s_98_80 {K : gC} : gOk K g_Ms mi_98 80 (ga_push (.int 0) 81) := gs_iconst (by decide +kernel : decode mi_98.2.1 80 = .ok (.iconst 0, 1)) (by decide) rfl
theorem s_98_81 {K : gC} : gOk K g_Ms mi_98 81 (ga_putI 7 21 84) := gs_putI gcls_7 (by decide) (by decide) rfl rfl gw_677 (by decide +kernel : decode mi_98.2.1 81 = .ok (.putfield 166, 3)) rfl
theorem s_98_84 {K : gC} : gOk K g_Ms mi_98 84 (ga_aload 0 85) := gs_aload_n (by decide +kernel : decode mi_98.2.1 84 = .ok (.aload_n 0, 1)) rfl rfl
theorem s_98_85 {K : gC} : gOk K g_Ms mi_98 85 (ga_push (.int 0) 86) := gs_iconst (by decide +kernel : decode mi_98.2.1 85 = .ok (.iconst 0, 1)) (by decide) rfl
theorem s_98_86 {K : gC} : gOk K g_Ms mi_98 86 (ga_putI 7 24 89) := gs_putI gcls_7 (by decide) (by decide) rfl rfl gw_680 (by decide +kernel : decode mi_98.2.1 86 = .ok (.putfield 169, 3)) rfl
theorem s_98_89 {K : gC} : gOk K g_Ms mi_98 89 (ga_aload 0 90) := gs_aload_n (by decide +kernel : decode mi_98.2.1 89 = .ok (.aload_n 0, 1)) rfl rfl
theorem s_98_90 {K : gC} : gOk K g_Ms mi_98 90 (ga_getR 7 23 93) := gs_getR gcls_7 (by decide) (by decide) gw_679 (by decide +kernel : decode mi_98.2.1 90 = .ok (.getfield 42, 3)) rfl
theorem s_98_93 {K : gC} : gOk K g_Ms mi_98 93 (ga_push (.int 0) 94) := gs_iconst (by decide +kernel : decode mi_98.2.1 93 = .ok (.iconst 0, 1)) (by decide) rfl
theorem s_98_94 {K : gC} : gOk K g_Ms mi_98 94 (ga_push (.int 0) 95) := gs_iconst (by decide +kernel : decode mi_98.2.1 94 = .ok (.iconst 0, 1)) (by decide) rfl
theorem s_98_95 {K : gC} : gOk K g_Ms mi_98 95 (ga_bast 96) := gs_zast (by decide +kernel : decode mi_98.2.1 95 = .ok (.bastore, 1)) rfl
theorem s_98_96 {K : gC} : gOk K g_Ms mi_98 96 (ga_aload 0 97) := gs_aload_n (by decide +kernel : decode mi_98.2.1 96 = .ok (.aload_n 0, 1)) rfl rfl
theorem s_98_97 {K : gC} : gOk K g_Ms mi_98 97 (ga_getR 7 23 100) := gs_getR gcls_7 (by decide) (by decide) gw_679 (by decide +kernel : decode mi_98.2.1 97 = .ok (.getfield 42, 3)) rfl
theorem s_98_100 {K : gC} : gOk K g_Ms mi_98 100 (ga_push (.int 1) 101) := gs_iconst (by decide +kernel : decode mi_98.2.1 100 = .ok (.iconst 1, 1)) (by decide) rfl
theorem s_98_101 {K : gC} : gOk K g_Ms mi_98 101 (ga_push (.int 0) 102) := gs_iconst (by decide +kernel : decode mi_98.2.1 101 = .ok (.iconst 0, 1)) (by decide) rfl
theorem s_98_102 {K : gC} : gOk K g_Ms mi_98 102 (ga_bast 103) := gs_zast (by decide +kernel : decode mi_98.2.1 102 = .ok (.bastore, 1)) rfl
theorem s_98_103 {K : gC} : gOk K g_Ms mi_98 103 (ga_aload 0 104) := gs_aload_n (by decide +kernel : decode mi_98.2.1 103 = .ok (.aload_n 0, 1)) rfl rfl
theorem s_98_104 {K : gC} : gOk K g_Ms mi_98 104 (ga_getI 7 15 107) := gs_getI gcls_7 (by decide) (by decide) gw_671 (by decide +kernel : decode mi_98.2.1 104 = .ok (.getfield 148, 3)) rfl
theorem s_98_107 {K : gC} : gOk K g_Ms mi_98 107 (ga_iret) := gs_iret (by decide +kernel : decode mi_98.2.1 107 = .ok (.ireturn, 1)) rfl
theorem ok_98 {K : gC} : ∀ e ∈ t_98, gOk K g_Ms mi_98 e.1 e.2 := by
  unfold t_98
  simp only [List.forall_mem_cons, List.not_mem_nil, false_implies, implies_true, and_true]
  exact ⟨s_98_0, s_98_1, s_98_4, s_98_7, s_98_9, s_98_10, s_98_11, s_98_12, s_98_13, s_98_14, s_98_17, s_98_20, s_98_21, s_98_22, s_98_23, s_98_24, s_98_27, s_98_30, s_98_33, s_98_34, s_98_35, s_98_38, s_98_39, s_98_40, s_98_41, s_98_43, s_98_46, s_98_47, s_98_50, s_98_51, s_98_52, s_98_53, s_98_54, s_98_57, s_98_58, s_98_59, s_98_60, s_98_63, s_98_66, s_98_67, s_98_68, s_98_71, s_98_74, s_98_75, s_98_76, s_98_79, s_98_80, s_98_81, s_98_84, s_98_85, s_98_86, s_98_89, s_98_90, s_98_93, s_98_94, s_98_95, s_98_96, s_98_97, s_98_100, s_98_101, s_98_102, s_98_103, s_98_104, s_98_107⟩
theorem s_99_0 {K : gC} : gOk K g_Ms mi_99 0 (ga_aload 0 1) := gs_aload_n (by decide +kernel : decode mi_99.2.1 0 = .ok (.aload_n 0, 1)) rfl rfl
theorem s_99_1 {K : gC} : gOk K g_Ms mi_99 1 (ga_getR 7 1 4) := gs_getR gcls_7 (by decide) (by decide) gw_657 (by decide +kernel : decode mi_99.2.1 1 = .ok (.getfield 13, 3)) rfl
theorem s_99_4 {K : gC} : gOk K g_Ms mi_99 4 (ga_iload 1 5) := gs_iload_n (by decide +kernel : decode mi_99.2.1 4 = .ok (.iload_n 1, 1)) rfl rfl
theorem s_99_5 {K : gC} : gOk K g_Ms mi_99 5 (ga_iald 6) := gs_iald (by decide +kernel : decode mi_99.2.1 5 = .ok (.iaload, 1)) rfl
theorem s_99_6 {K : gC} : gOk K g_Ms mi_99 6 (ga_push (.int (-1)) 7) := gs_iconst (by decide +kernel : decode mi_99.2.1 6 = .ok (.iconst (-1), 1)) (by decide) rfl
theorem s_99_7 {K : gC} : gOk K g_Ms mi_99 7 (ga_cmp (fun x y => decide (x = y)) 47 10) := gs_cmp_eq (by decide +kernel : decode mi_99.2.1 7 = .ok (.if_icmp .eq 40, 3)) (by decide) rfl
theorem s_99_10 {K : gC} : gOk K g_Ms mi_99 10 (ga_aload 0 11) := gs_aload_n (by decide +kernel : decode mi_99.2.1 10 = .ok (.aload_n 0, 1)) rfl rfl
theorem s_99_11 {K : gC} : gOk K g_Ms mi_99 11 (ga_getR 7 3 14) := gs_getR gcls_7 (by decide) (by decide) gw_659 (by decide +kernel : decode mi_99.2.1 11 = .ok (.getfield 20, 3)) rfl
theorem s_99_14 {K : gC} : gOk K g_Ms mi_99 14 (ga_iload 1 15) := gs_iload_n (by decide +kernel : decode mi_99.2.1 14 = .ok (.iload_n 1, 1)) rfl rfl
theorem s_99_15 {K : gC} : gOk K g_Ms mi_99 15 (ga_iald 16) := gs_iald (by decide +kernel : decode mi_99.2.1 15 = .ok (.iaload, 1)) rfl
theorem s_99_16 {K : gC} : gOk K g_Ms mi_99 16 (ga_push (.int 1) 17) := gs_iconst (by decide +kernel : decode mi_99.2.1 16 = .ok (.iconst 1, 1)) (by decide) rfl
theorem s_99_17 {K : gC} : gOk K g_Ms mi_99 17 (ga_cmp (fun x y => decide (x = y)) 47 20) := gs_cmp_eq (by decide +kernel : decode mi_99.2.1 17 = .ok (.if_icmp .eq 30, 3)) (by decide) rfl
theorem s_99_20 {K : gC} : gOk K g_Ms mi_99 20 (ga_aload 0 21) := gs_aload_n (by decide +kernel : decode mi_99.2.1 20 = .ok (.aload_n 0, 1)) rfl rfl
theorem s_99_21 {K : gC} : gOk K g_Ms mi_99 21 (ga_getR 7 2 24) := gs_getR gcls_7 (by decide) (by decide) gw_658 (by decide +kernel : decode mi_99.2.1 21 = .ok (.getfield 17, 3)) rfl
theorem s_99_24 {K : gC} : gOk K g_Ms mi_99 24 (ga_iload 1 25) := gs_iload_n (by decide +kernel : decode mi_99.2.1 24 = .ok (.iload_n 1, 1)) rfl rfl
theorem s_99_25 {K : gC} : gOk K g_Ms mi_99 25 (ga_iald 26) := gs_iald (by decide +kernel : decode mi_99.2.1 25 = .ok (.iaload, 1)) rfl
theorem s_99_26 {K : gC} : gOk K g_Ms mi_99 26 (ga_aload 0 27) := gs_aload_n (by decide +kernel : decode mi_99.2.1 26 = .ok (.aload_n 0, 1)) rfl rfl
theorem s_99_27 {K : gC} : gOk K g_Ms mi_99 27 (ga_getI 7 5 30) := gs_getI gcls_7 (by decide) (by decide) gw_661 (by decide +kernel : decode mi_99.2.1 27 = .ok (.getfield 160, 3)) rfl
theorem s_99_30 {K : gC} : gOk K g_Ms mi_99 30 (ga_push (.int 1) 31) := gs_iconst (by decide +kernel : decode mi_99.2.1 30 = .ok (.iconst 1, 1)) (by decide) rfl
theorem s_99_31 {K : gC} : gOk K g_Ms mi_99 31 (ga_cmp (fun x y => decide (¬ x = y)) 38 34) := gs_cmp_ne (by decide +kernel : decode mi_99.2.1 31 = .ok (.if_icmp .ne 7, 3)) (by decide) rfl
theorem s_99_34 {K : gC} : gOk K g_Ms mi_99 34 (ga_push (.int 4) 35) := gs_iconst (by decide +kernel : decode mi_99.2.1 34 = .ok (.iconst 4, 1)) (by decide) rfl
theorem s_99_35 {K : gC} : gOk K g_Ms mi_99 35 (ga_goto 40) := gs_goto (by decide +kernel : decode mi_99.2.1 35 = .ok (.goto 5, 3)) (by decide)
theorem s_99_38 {K : gC} : gOk K g_Ms mi_99 38 (ga_push (.int 9) 40) := gs_bipush (by decide +kernel : decode mi_99.2.1 38 = .ok (.bipush 9, 2)) (by decide) rfl
theorem s_99_40 {K : gC} : gOk K g_Ms mi_99 40 (ga_cmp (fun x y => decide (y < x)) 47 43) := gs_cmp_gt (by decide +kernel : decode mi_99.2.1 40 = .ok (.if_icmp .gt 7, 3)) (by decide) rfl
theorem s_99_43 {K : gC} : gOk K g_Ms mi_99 43 (ga_push (.int 1) 44) := gs_iconst (by decide +kernel : decode mi_99.2.1 43 = .ok (.iconst 1, 1)) (by decide) rfl
theorem s_99_44 {K : gC} : gOk K g_Ms mi_99 44 (ga_goto 48) := gs_goto (by decide +kernel : decode mi_99.2.1 44 = .ok (.goto 4, 3)) (by decide)
theorem s_99_47 {K : gC} : gOk K g_Ms mi_99 47 (ga_push (.int 0) 48) := gs_iconst (by decide +kernel : decode mi_99.2.1 47 = .ok (.iconst 0, 1)) (by decide) rfl
theorem s_99_48 {K : gC} : gOk K g_Ms mi_99 48 (ga_zret) := gs_zret (by decide +kernel : decode mi_99.2.1 48 = .ok (.ireturn, 1)) rfl rfl rfl
theorem ok_99 {K : gC} : ∀ e ∈ t_99, gOk K g_Ms mi_99 e.1 e.2 := by
  unfold t_99
  simp only [List.forall_mem_cons, List.not_mem_nil, false_implies, implies_true, and_true]
  exact ⟨s_99_0, s_99_1, s_99_4, s_99_5, s_99_6, s_99_7, s_99_10, s_99_11, s_99_14, s_99_15, s_99_16, s_99_17, s_99_20, s_99_21, s_99_24, s_99_25, s_99_26, s_99_27, s_99_30, s_99_31, s_99_34, s_99_35, s_99_38, s_99_40, s_99_43, s_99_44, s_99_47, s_99_48⟩
theorem s_100_0 {K : gC} : gOk K g_Ms mi_100 0 (ga_aload 0 1) := gs_aload_n (by decide +kernel : decode mi_100.2.1 0 = .ok (.aload_n 0, 1)) rfl rfl
theorem s_100_1 {K : gC} : gOk K g_Ms mi_100 1 (ga_getR 7 3 4) := gs_getR gcls_7 (by decide) (by decide) gw_659 (by decide +kernel : decode mi_100.2.1 1 = .ok (.getfield 20, 3)) rfl
theorem s_100_4 {K : gC} : gOk K g_Ms mi_100 4 (ga_iload 1 5) := gs_iload_n (by decide +kernel : decode mi_100.2.1 4 = .ok (.iload_n 1, 1)) rfl rfl
theorem s_100_5 {K : gC} : gOk K g_Ms mi_100 5 (ga_iald 6) := gs_iald (by decide +kernel : decode mi_100.2.1 5 = .ok (.iaload, 1)) rfl
theorem s_100_6 {K : gC} : gOk K g_Ms mi_100 6 (ga_push (.int 2) 7) := gs_iconst (by decide +kernel : decode mi_100.2.1 6 = .ok (.iconst 2, 1)) (by decide) rfl
theorem s_100_7 {K : gC} : gOk K g_Ms mi_100 7 (ga_cmp (fun x y => decide (¬ x = y)) 21 10) := gs_cmp_ne (by decide +kernel : decode mi_100.2.1 7 = .ok (.if_icmp .ne 14, 3)) (by decide) rfl
theorem s_100_10 {K : gC} : gOk K g_Ms mi_100 10 (ga_push (.int 2) 11) := gs_iconst (by decide +kernel : decode mi_100.2.1 10 = .ok (.iconst 2, 1)) (by decide) rfl
theorem s_100_11 {K : gC} : gOk K g_Ms mi_100 11 (ga_aload 0 12) := gs_aload_n (by decide +kernel : decode mi_100.2.1 11 = .ok (.aload_n 0, 1)) rfl rfl
theorem s_100_12 {K : gC} : gOk K g_Ms mi_100 12 (ga_getR 7 4 15) := gs_getR gcls_7 (by decide) (by decide) gw_660 (by decide +kernel : decode mi_100.2.1 12 = .ok (.getfield 23, 3)) rfl
theorem s_100_15 {K : gC} : gOk K g_Ms mi_100 15 (ga_iload 1 16) := gs_iload_n (by decide +kernel : decode mi_100.2.1 15 = .ok (.iload_n 1, 1)) rfl rfl
theorem s_100_16 {K : gC} : gOk K g_Ms mi_100 16 (ga_iald 17) := gs_iald (by decide +kernel : decode mi_100.2.1 16 = .ok (.iaload, 1)) rfl
theorem s_100_17 {K : gC} : gOk K g_Ms mi_100 17 (ga_bin (fun x y => x * y) 18) := gs_imul (by decide +kernel : decode mi_100.2.1 17 = .ok (.imul, 1)) rfl
theorem s_100_18 {K : gC} : gOk K g_Ms mi_100 18 (ga_goto 27) := gs_goto (by decide +kernel : decode mi_100.2.1 18 = .ok (.goto 9, 3)) (by decide)
theorem s_100_21 {K : gC} : gOk K g_Ms mi_100 21 (ga_aload 0 22) := gs_aload_n (by decide +kernel : decode mi_100.2.1 21 = .ok (.aload_n 0, 1)) rfl rfl
theorem s_100_22 {K : gC} : gOk K g_Ms mi_100 22 (ga_getR 7 4 25) := gs_getR gcls_7 (by decide) (by decide) gw_660 (by decide +kernel : decode mi_100.2.1 22 = .ok (.getfield 23, 3)) rfl
theorem s_100_25 {K : gC} : gOk K g_Ms mi_100 25 (ga_iload 1 26) := gs_iload_n (by decide +kernel : decode mi_100.2.1 25 = .ok (.iload_n 1, 1)) rfl rfl
theorem s_100_26 {K : gC} : gOk K g_Ms mi_100 26 (ga_iald 27) := gs_iald (by decide +kernel : decode mi_100.2.1 26 = .ok (.iaload, 1)) rfl
theorem s_100_27 {K : gC} : gOk K g_Ms mi_100 27 (ga_aload 0 28) := gs_aload_n (by decide +kernel : decode mi_100.2.1 27 = .ok (.aload_n 0, 1)) rfl rfl
theorem s_100_28 {K : gC} : gOk K g_Ms mi_100 28 (ga_getI 7 5 31) := gs_getI gcls_7 (by decide) (by decide) gw_661 (by decide +kernel : decode mi_100.2.1 28 = .ok (.getfield 160, 3)) rfl
theorem s_100_31 {K : gC} : gOk K g_Ms mi_100 31 (ga_push (.int 2) 32) := gs_iconst (by decide +kernel : decode mi_100.2.1 31 = .ok (.iconst 2, 1)) (by decide) rfl
theorem s_100_32 {K : gC} : gOk K g_Ms mi_100 32 (ga_cmp (fun x y => decide (¬ x = y)) 39 35) := gs_cmp_ne (by decide +kernel : decode mi_100.2.1 32 = .ok (.if_icmp .ne 7, 3)) (by decide) rfl
theorem s_100_35 {K : gC} : gOk K g_Ms mi_100 35 (ga_push (.int 1) 36) := gs_iconst (by decide +kernel : decode mi_100.2.1 35 = .ok (.iconst 1, 1)) (by decide) rfl
theorem s_100_36 {K : gC} : gOk K g_Ms mi_100 36 (ga_goto 40) := gs_goto (by decide +kernel : decode mi_100.2.1 36 = .ok (.goto 4, 3)) (by decide)
theorem s_100_39 {K : gC} : gOk K g_Ms mi_100 39 (ga_push (.int 0) 40) := gs_iconst (by decide +kernel : decode mi_100.2.1 39 = .ok (.iconst 0, 1)) (by decide) rfl
theorem s_100_40 {K : gC} : gOk K g_Ms mi_100 40 (ga_bin (fun x y => x + y) 41) := gs_iadd (by decide +kernel : decode mi_100.2.1 40 = .ok (.iadd, 1)) rfl
theorem s_100_41 {K : gC} : gOk K g_Ms mi_100 41 (ga_iret) := gs_iret (by decide +kernel : decode mi_100.2.1 41 = .ok (.ireturn, 1)) rfl
theorem ok_100 {K : gC} : ∀ e ∈ t_100, gOk K g_Ms mi_100 e.1 e.2 := by
  unfold t_100
  simp only [List.forall_mem_cons, List.not_mem_nil, false_implies, implies_true, and_true]
  exact ⟨s_100_0, s_100_1, s_100_4, s_100_5, s_100_6, s_100_7, s_100_10, s_100_11, s_100_12, s_100_15, s_100_16, s_100_17, s_100_18, s_100_21, s_100_22, s_100_25, s_100_26, s_100_27, s_100_28, s_100_31, s_100_32, s_100_35, s_100_36, s_100_39, s_100_40, s_100_41⟩
theorem s_101_0 {K : gC} : gOk K g_Ms mi_101 0 (ga_aload 0 1) := gs_aload_n (by decide +kernel : decode mi_101.2.1 0 = .ok (.aload_n 0, 1)) rfl rfl
theorem s_101_1 {K : gC} : gOk K g_Ms mi_101 1 (ga_iload 1 2) := gs_iload_n (by decide +kernel : decode mi_101.2.1 1 = .ok (.iload_n 1, 1)) rfl rfl
theorem s_101_2 {K : gC} : gOk K g_Ms mi_101 2 (ga_callV 7 85 1 5) := gs_callV gcls_7 (gce_X7_isGong (by decide) (by decide)) gw_819 gw_821 gw_23 (by decide +kernel : decode mi_101.2.1 2 = .ok (.invokevirtual 172, 3)) rfl
theorem s_101_5 {K : gC} : gOk K g_Ms mi_101 5 (ga_if (fun x => decide (¬ x = 0)) 11 8) := gs_if_ne (by decide +kernel : decode mi_101.2.1 5 = .ok (.ifCond .ne 6, 3)) (by decide) rfl
theorem s_101_8 {K : gC} : gOk K g_Ms mi_101 8 (ga_push (.int (-2)) 10) := gs_bipush (by decide +kernel : decode mi_101.2.1 8 = .ok (.bipush (-2), 2)) (by decide) rfl
theorem s_101_10 {K : gC} : gOk K g_Ms mi_101 10 (ga_iret) := gs_iret (by decide +kernel : decode mi_101.2.1 10 = .ok (.ireturn, 1)) rfl
theorem s_101_11 {K : gC} : gOk K g_Ms mi_101 11 (ga_push (.int (-1)) 12) := gs_iconst (by decide +kernel : decode mi_101.2.1 11 = .ok (.iconst (-1), 1)) (by decide) rfl
theorem s_101_12 {K : gC} : gOk K g_Ms mi_101 12 (ga_istore 3 13) := gs_istore_n (by decide +kernel : decode mi_101.2.1 12 = .ok (.istore_n 3, 1)) rfl rfl
theorem s_101_13 {K : gC} : gOk K g_Ms mi_101 13 (ga_push (.int 50) 15) := gs_bipush (by decide +kernel : decode mi_101.2.1 13 = .ok (.bipush 50, 2)) (by decide) rfl
theorem s_101_15 {K : gC} : gOk K g_Ms mi_101 15 (ga_istore 4 17) := gs_istore (by decide +kernel : decode mi_101.2.1 15 = .ok (.istore 4, 2)) rfl
theorem s_101_17 {K : gC} : gOk K g_Ms mi_101 17 (ga_iload 4 19) := gs_iload (by decide +kernel : decode mi_101.2.1 17 = .ok (.iload 4, 2)) rfl
theorem s_101_19 {K : gC} : gOk K g_Ms mi_101 19 (ga_if (fun x => decide (x ≤ 0)) 51 22) := gs_if_le (by decide +kernel : decode mi_101.2.1 19 = .ok (.ifCond .le 32, 3)) (by decide) rfl
theorem s_101_22 {K : gC} : gOk K g_Ms mi_101 22 (ga_aload 0 23) := gs_aload_n (by decide +kernel : decode mi_101.2.1 22 = .ok (.aload_n 0, 1)) rfl rfl
theorem s_101_23 {K : gC} : gOk K g_Ms mi_101 23 (ga_getR 7 18 26) := gs_getR gcls_7 (by decide) (by decide) gw_674 (by decide +kernel : decode mi_101.2.1 23 = .ok (.getfield 32, 3)) rfl
theorem s_101_26 {K : gC} : gOk K g_Ms mi_101 26 (ga_iload 1 27) := gs_iload_n (by decide +kernel : decode mi_101.2.1 26 = .ok (.iload_n 1, 1)) rfl rfl
theorem s_101_27 {K : gC} : gOk K g_Ms mi_101 27 (ga_lald 28) := gs_lald (by decide +kernel : decode mi_101.2.1 27 = .ok (.laload, 1)) rfl
theorem s_101_28 {K : gC} : gOk K g_Ms mi_101 28 (ga_iload 4 30) := gs_iload (by decide +kernel : decode mi_101.2.1 28 = .ok (.iload 4, 2)) rfl
theorem s_101_30 {K : gC} : gOk K g_Ms mi_101 30 (ga_lsh (fun x y => x >>> (y.toInt64 &&& 63)) 31) := gs_lshr (by decide +kernel : decode mi_101.2.1 30 = .ok (.lshr, 1)) rfl
theorem s_101_31 {K : gC} : gOk K g_Ms mi_101 31 (ga_push (.long 1) 32) := gs_lconst (by decide +kernel : decode mi_101.2.1 31 = .ok (.lconst 1, 1)) (by decide) rfl
theorem s_101_32 {K : gC} : gOk K g_Ms mi_101 32 (ga_lbin (fun x y => x &&& y) 33) := gs_land (by decide +kernel : decode mi_101.2.1 32 = .ok (.land, 1)) rfl
theorem s_101_33 {K : gC} : gOk K g_Ms mi_101 33 (ga_push (.long 1) 34) := gs_lconst (by decide +kernel : decode mi_101.2.1 33 = .ok (.lconst 1, 1)) (by decide) rfl
theorem s_101_34 {K : gC} : gOk K g_Ms mi_101 34 (ga_lcmp 35) := gs_lcmp (by decide +kernel : decode mi_101.2.1 34 = .ok (.lcmp, 1)) rfl
theorem s_101_35 {K : gC} : gOk K g_Ms mi_101 35 (ga_if (fun x => decide (¬ x = 0)) 43 38) := gs_if_ne (by decide +kernel : decode mi_101.2.1 35 = .ok (.ifCond .ne 8, 3)) (by decide) rfl
theorem s_101_38 {K : gC} : gOk K g_Ms mi_101 38 (ga_iload 4 40) := gs_iload (by decide +kernel : decode mi_101.2.1 38 = .ok (.iload 4, 2)) rfl
theorem s_101_40 {K : gC} : gOk K g_Ms mi_101 40 (ga_goto 44) := gs_goto (by decide +kernel : decode mi_101.2.1 40 = .ok (.goto 4, 3)) (by decide)
theorem s_101_43 {K : gC} : gOk K g_Ms mi_101 43 (ga_iload 3 44) := gs_iload_n (by decide +kernel : decode mi_101.2.1 43 = .ok (.iload_n 3, 1)) rfl rfl
theorem s_101_44 {K : gC} : gOk K g_Ms mi_101 44 (ga_istore 3 45) := gs_istore_n (by decide +kernel : decode mi_101.2.1 44 = .ok (.istore_n 3, 1)) rfl rfl
theorem s_101_45 {K : gC} : gOk K g_Ms mi_101 45 (ga_iinc 4 (-1) 48) := gs_iinc (by decide +kernel : decode mi_101.2.1 45 = .ok (.iinc 4 (-1), 3)) (by decide) rfl
theorem s_101_48 {K : gC} : gOk K g_Ms mi_101 48 (ga_goto 17) := gs_goto (by decide +kernel : decode mi_101.2.1 48 = .ok (.goto (-31), 3)) (by decide)
theorem s_101_51 {K : gC} : gOk K g_Ms mi_101 51 (ga_iload 2 52) := gs_iload_n (by decide +kernel : decode mi_101.2.1 51 = .ok (.iload_n 2, 1)) rfl rfl
theorem s_101_52 {K : gC} : gOk K g_Ms mi_101 52 (ga_switch 0 [88, 95, 102, 116, 123] 125) := gs_switch (by decide +kernel : decode mi_101.2.1 52 = .ok (.tableswitch 73 0 4 #[36, 43, 50, 64, 71], 36)) (by decide) (by decide) (by decide)
theorem s_101_88 {K : gC} : gOk K g_Ms mi_101 88 (ga_aload 0 89) := gs_aload_n (by decide +kernel : decode mi_101.2.1 88 = .ok (.aload_n 0, 1)) rfl rfl
theorem s_101_89 {K : gC} : gOk K g_Ms mi_101 89 (ga_getR 7 1 92) := gs_getR gcls_7 (by decide) (by decide) gw_657 (by decide +kernel : decode mi_101.2.1 89 = .ok (.getfield 13, 3)) rfl
theorem s_101_92 {K : gC} : gOk K g_Ms mi_101 92 (ga_iload 1 93) := gs_iload_n (by decide +kernel : decode mi_101.2.1 92 = .ok (.iload_n 1, 1)) rfl rfl
theorem s_101_93 {K : gC} : gOk K g_Ms mi_101 93 (ga_iald 94) := gs_iald (by decide +kernel : decode mi_101.2.1 93 = .ok (.iaload, 1)) rfl
theorem s_101_94 {K : gC} : gOk K g_Ms mi_101 94 (ga_iret) := gs_iret (by decide +kernel : decode mi_101.2.1 94 = .ok (.ireturn, 1)) rfl
theorem s_101_95 {K : gC} : gOk K g_Ms mi_101 95 (ga_aload 0 96) := gs_aload_n (by decide +kernel : decode mi_101.2.1 95 = .ok (.aload_n 0, 1)) rfl rfl
theorem s_101_96 {K : gC} : gOk K g_Ms mi_101 96 (ga_getR 7 2 99) := gs_getR gcls_7 (by decide) (by decide) gw_658 (by decide +kernel : decode mi_101.2.1 96 = .ok (.getfield 17, 3)) rfl
theorem s_101_99 {K : gC} : gOk K g_Ms mi_101 99 (ga_iload 1 100) := gs_iload_n (by decide +kernel : decode mi_101.2.1 99 = .ok (.iload_n 1, 1)) rfl rfl
theorem s_101_100 {K : gC} : gOk K g_Ms mi_101 100 (ga_iald 101) := gs_iald (by decide +kernel : decode mi_101.2.1 100 = .ok (.iaload, 1)) rfl
theorem s_101_101 {K : gC} : gOk K g_Ms mi_101 101 (ga_iret) := gs_iret (by decide +kernel : decode mi_101.2.1 101 = .ok (.ireturn, 1)) rfl
theorem s_101_102 {K : gC} : gOk K g_Ms mi_101 102 (ga_aload 0 103) := gs_aload_n (by decide +kernel : decode mi_101.2.1 102 = .ok (.aload_n 0, 1)) rfl rfl
theorem s_101_103 {K : gC} : gOk K g_Ms mi_101 103 (ga_iload 1 104) := gs_iload_n (by decide +kernel : decode mi_101.2.1 103 = .ok (.iload_n 1, 1)) rfl rfl
theorem s_101_104 {K : gC} : gOk K g_Ms mi_101 104 (ga_callV 7 99 1 107) := gs_callV gcls_7 (gce_X7_canHear (by decide) (by decide)) gw_823 gw_825 gw_24 (by decide +kernel : decode mi_101.2.1 104 = .ok (.invokevirtual 175, 3)) rfl
theorem s_101_107 {K : gC} : gOk K g_Ms mi_101 107 (ga_if (fun x => decide (x = 0)) 114 110) := gs_if_eq (by decide +kernel : decode mi_101.2.1 107 = .ok (.ifCond .eq 7, 3)) (by decide) rfl
theorem s_101_110 {K : gC} : gOk K g_Ms mi_101 110 (ga_push (.int 1) 111) := gs_iconst (by decide +kernel : decode mi_101.2.1 110 = .ok (.iconst 1, 1)) (by decide) rfl
theorem s_101_111 {K : gC} : gOk K g_Ms mi_101 111 (ga_goto 115) := gs_goto (by decide +kernel : decode mi_101.2.1 111 = .ok (.goto 4, 3)) (by decide)
theorem s_101_114 {K : gC} : gOk K g_Ms mi_101 114 (ga_push (.int 0) 115) := gs_iconst (by decide +kernel : decode mi_101.2.1 114 = .ok (.iconst 0, 1)) (by decide) rfl
theorem s_101_115 {K : gC} : gOk K g_Ms mi_101 115 (ga_iret) := gs_iret (by decide +kernel : decode mi_101.2.1 115 = .ok (.ireturn, 1)) rfl
theorem s_101_116 {K : gC} : gOk K g_Ms mi_101 116 (ga_aload 0 117) := gs_aload_n (by decide +kernel : decode mi_101.2.1 116 = .ok (.aload_n 0, 1)) rfl rfl
theorem s_101_117 {K : gC} : gOk K g_Ms mi_101 117 (ga_getR 7 19 120) := gs_getR gcls_7 (by decide) (by decide) gw_675 (by decide +kernel : decode mi_101.2.1 117 = .ok (.getfield 36, 3)) rfl
theorem s_101_120 {K : gC} : gOk K g_Ms mi_101 120 (ga_iload 1 121) := gs_iload_n (by decide +kernel : decode mi_101.2.1 120 = .ok (.iload_n 1, 1)) rfl rfl
theorem s_101_121 {K : gC} : gOk K g_Ms mi_101 121 (ga_iald 122) := gs_iald (by decide +kernel : decode mi_101.2.1 121 = .ok (.iaload, 1)) rfl
theorem s_101_122 {K : gC} : gOk K g_Ms mi_101 122 (ga_iret) := gs_iret (by decide +kernel : decode mi_101.2.1 122 = .ok (.ireturn, 1)) rfl
theorem s_101_123 {K : gC} : gOk K g_Ms mi_101 123 (ga_iload 3 124) := gs_iload_n (by decide +kernel : decode mi_101.2.1 123 = .ok (.iload_n 3, 1)) rfl rfl
theorem s_101_124 {K : gC} : gOk K g_Ms mi_101 124 (ga_iret) := gs_iret (by decide +kernel : decode mi_101.2.1 124 = .ok (.ireturn, 1)) rfl
theorem s_101_125 {K : gC} : gOk K g_Ms mi_101 125 (ga_push (.int (-3)) 127) := gs_bipush (by decide +kernel : decode mi_101.2.1 125 = .ok (.bipush (-3), 2)) (by decide) rfl
theorem s_101_127 {K : gC} : gOk K g_Ms mi_101 127 (ga_iret) := gs_iret (by decide +kernel : decode mi_101.2.1 127 = .ok (.ireturn, 1)) rfl
theorem ok_101 {K : gC} : ∀ e ∈ t_101, gOk K g_Ms mi_101 e.1 e.2 := by
  unfold t_101
  simp only [List.forall_mem_cons, List.not_mem_nil, false_implies, implies_true, and_true]
  exact ⟨s_101_0, s_101_1, s_101_2, s_101_5, s_101_8, s_101_10, s_101_11, s_101_12, s_101_13, s_101_15, s_101_17, s_101_19, s_101_22, s_101_23, s_101_26, s_101_27, s_101_28, s_101_30, s_101_31, s_101_32, s_101_33, s_101_34, s_101_35, s_101_38, s_101_40, s_101_43, s_101_44, s_101_45, s_101_48, s_101_51, s_101_52, s_101_88, s_101_89, s_101_92, s_101_93, s_101_94, s_101_95, s_101_96, s_101_99, s_101_100, s_101_101, s_101_102, s_101_103, s_101_104, s_101_107, s_101_110, s_101_111, s_101_114, s_101_115, s_101_116, s_101_117, s_101_120, s_101_121, s_101_122, s_101_123, s_101_124, s_101_125, s_101_127⟩
theorem s_102_0 {K : gC} : gOk K g_Ms mi_102 0 (ga_aload 0 1) := gs_aload_n (by decide +kernel : decode mi_102.2.1 0 = .ok (.aload_n 0, 1)) rfl rfl
theorem s_102_1 {K : gC} : gOk K g_Ms mi_102 1 (ga_iload 1 2) := gs_iload_n (by decide +kernel : decode mi_102.2.1 1 = .ok (.iload_n 1, 1)) rfl rfl
theorem s_102_2 {K : gC} : gOk K g_Ms mi_102 2 (ga_callV 7 85 1 5) := gs_callV gcls_7 (gce_X7_isGong (by decide) (by decide)) gw_819 gw_821 gw_23 (by decide +kernel : decode mi_102.2.1 2 = .ok (.invokevirtual 172, 3)) rfl
theorem s_102_5 {K : gC} : gOk K g_Ms mi_102 5 (ga_if (fun x => decide (¬ x = 0)) 11 8) := gs_if_ne (by decide +kernel : decode mi_102.2.1 5 = .ok (.ifCond .ne 6, 3)) (by decide) rfl
theorem s_102_8 {K : gC} : gOk K g_Ms mi_102 8 (ga_push (.int (-2)) 10) := gs_bipush (by decide +kernel : decode mi_102.2.1 8 = .ok (.bipush (-2), 2)) (by decide) rfl
theorem s_102_10 {K : gC} : gOk K g_Ms mi_102 10 (ga_iret) := gs_iret (by decide +kernel : decode mi_102.2.1 10 = .ok (.ireturn, 1)) rfl
theorem s_102_11 {K : gC} : gOk K g_Ms mi_102 11 (ga_iload 2 12) := gs_iload_n (by decide +kernel : decode mi_102.2.1 11 = .ok (.iload_n 2, 1)) rfl rfl
theorem s_102_12 {K : gC} : gOk K g_Ms mi_102 12 (ga_switch 0 [44, 51, 58, 64] 73) := gs_switch (by decide +kernel : decode mi_102.2.1 12 = .ok (.tableswitch 61 0 3 #[32, 39, 46, 52], 32)) (by decide) (by decide) (by decide)
theorem s_102_44 {K : gC} : gOk K g_Ms mi_102 44 (ga_aload 0 45) := gs_aload_n (by decide +kernel : decode mi_102.2.1 44 = .ok (.aload_n 0, 1)) rfl rfl
theorem s_102_45 {K : gC} : gOk K g_Ms mi_102 45 (ga_getR 7 3 48) := gs_getR gcls_7 (by decide) (by decide) gw_659 (by decide +kernel : decode mi_102.2.1 45 = .ok (.getfield 20, 3)) rfl
theorem s_102_48 {K : gC} : gOk K g_Ms mi_102 48 (ga_iload 1 49) := gs_iload_n (by decide +kernel : decode mi_102.2.1 48 = .ok (.iload_n 1, 1)) rfl rfl
theorem s_102_49 {K : gC} : gOk K g_Ms mi_102 49 (ga_iald 50) := gs_iald (by decide +kernel : decode mi_102.2.1 49 = .ok (.iaload, 1)) rfl
theorem s_102_50 {K : gC} : gOk K g_Ms mi_102 50 (ga_iret) := gs_iret (by decide +kernel : decode mi_102.2.1 50 = .ok (.ireturn, 1)) rfl
theorem s_102_51 {K : gC} : gOk K g_Ms mi_102 51 (ga_aload 0 52) := gs_aload_n (by decide +kernel : decode mi_102.2.1 51 = .ok (.aload_n 0, 1)) rfl rfl
theorem s_102_52 {K : gC} : gOk K g_Ms mi_102 52 (ga_getR 7 4 55) := gs_getR gcls_7 (by decide) (by decide) gw_660 (by decide +kernel : decode mi_102.2.1 52 = .ok (.getfield 23, 3)) rfl
theorem s_102_55 {K : gC} : gOk K g_Ms mi_102 55 (ga_iload 1 56) := gs_iload_n (by decide +kernel : decode mi_102.2.1 55 = .ok (.iload_n 1, 1)) rfl rfl
theorem s_102_56 {K : gC} : gOk K g_Ms mi_102 56 (ga_iald 57) := gs_iald (by decide +kernel : decode mi_102.2.1 56 = .ok (.iaload, 1)) rfl
theorem s_102_57 {K : gC} : gOk K g_Ms mi_102 57 (ga_iret) := gs_iret (by decide +kernel : decode mi_102.2.1 57 = .ok (.ireturn, 1)) rfl
theorem s_102_58 {K : gC} : gOk K g_Ms mi_102 58 (ga_aload 0 59) := gs_aload_n (by decide +kernel : decode mi_102.2.1 58 = .ok (.aload_n 0, 1)) rfl rfl
theorem s_102_59 {K : gC} : gOk K g_Ms mi_102 59 (ga_iload 1 60) := gs_iload_n (by decide +kernel : decode mi_102.2.1 59 = .ok (.iload_n 1, 1)) rfl rfl
theorem s_102_60 {K : gC} : gOk K g_Ms mi_102 60 (ga_callV 7 100 1 63) := gs_callV gcls_7 (gce_X7_lateOf (by decide) (by decide)) gw_831 gw_833 gw_25 (by decide +kernel : decode mi_102.2.1 60 = .ok (.invokevirtual 178, 3)) rfl
theorem s_102_63 {K : gC} : gOk K g_Ms mi_102 63 (ga_iret) := gs_iret (by decide +kernel : decode mi_102.2.1 63 = .ok (.ireturn, 1)) rfl
theorem s_102_64 {K : gC} : gOk K g_Ms mi_102 64 (ga_aload 0 65) := gs_aload_n (by decide +kernel : decode mi_102.2.1 64 = .ok (.aload_n 0, 1)) rfl rfl
theorem s_102_65 {K : gC} : gOk K g_Ms mi_102 65 (ga_getI 7 20 68) := gs_getI gcls_7 (by decide) (by decide) gw_676 (by decide +kernel : decode mi_102.2.1 65 = .ok (.getfield 163, 3)) rfl
theorem s_102_68 {K : gC} : gOk K g_Ms mi_102 68 (ga_iload 1 69) := gs_iload_n (by decide +kernel : decode mi_102.2.1 68 = .ok (.iload_n 1, 1)) rfl rfl
theorem s_102_69 {K : gC} : gOk K g_Ms mi_102 69 (ga_bin (fun x y => x >>> (y &&& 31)) 70) := gs_ishr (by decide +kernel : decode mi_102.2.1 69 = .ok (.ishr, 1)) rfl
theorem s_102_70 {K : gC} : gOk K g_Ms mi_102 70 (ga_push (.int 1) 71) := gs_iconst (by decide +kernel : decode mi_102.2.1 70 = .ok (.iconst 1, 1)) (by decide) rfl
theorem s_102_71 {K : gC} : gOk K g_Ms mi_102 71 (ga_bin (fun x y => x &&& y) 72) := gs_iand (by decide +kernel : decode mi_102.2.1 71 = .ok (.iand, 1)) rfl
theorem s_102_72 {K : gC} : gOk K g_Ms mi_102 72 (ga_iret) := gs_iret (by decide +kernel : decode mi_102.2.1 72 = .ok (.ireturn, 1)) rfl
theorem s_102_73 {K : gC} : gOk K g_Ms mi_102 73 (ga_push (.int (-3)) 75) := gs_bipush (by decide +kernel : decode mi_102.2.1 73 = .ok (.bipush (-3), 2)) (by decide) rfl
theorem s_102_75 {K : gC} : gOk K g_Ms mi_102 75 (ga_iret) := gs_iret (by decide +kernel : decode mi_102.2.1 75 = .ok (.ireturn, 1)) rfl
theorem ok_102 {K : gC} : ∀ e ∈ t_102, gOk K g_Ms mi_102 e.1 e.2 := by
  unfold t_102
  simp only [List.forall_mem_cons, List.not_mem_nil, false_implies, implies_true, and_true]
  exact ⟨s_102_0, s_102_1, s_102_2, s_102_5, s_102_8, s_102_10, s_102_11, s_102_12, s_102_44, s_102_45, s_102_48, s_102_49, s_102_50, s_102_51, s_102_52, s_102_55, s_102_56, s_102_57, s_102_58, s_102_59, s_102_60, s_102_63, s_102_64, s_102_65, s_102_68, s_102_69, s_102_70, s_102_71, s_102_72, s_102_73, s_102_75⟩
theorem s_103_0 {K : gC} : gOk K g_Ms mi_103 0 (ga_aload 0 1) := gs_aload_n (by decide +kernel : decode mi_103.2.1 0 = .ok (.aload_n 0, 1)) rfl rfl
theorem s_103_1 {K : gC} : gOk K g_Ms mi_103 1 (ga_iload 1 2) := gs_iload_n (by decide +kernel : decode mi_103.2.1 1 = .ok (.iload_n 1, 1)) rfl rfl
theorem s_103_2 {K : gC} : gOk K g_Ms mi_103 2 (ga_callV 7 85 1 5) := gs_callV gcls_7 (gce_X7_isGong (by decide) (by decide)) gw_819 gw_821 gw_23 (by decide +kernel : decode mi_103.2.1 2 = .ok (.invokevirtual 172, 3)) rfl
theorem s_103_5 {K : gC} : gOk K g_Ms mi_103 5 (ga_if (fun x => decide (¬ x = 0)) 11 8) := gs_if_ne (by decide +kernel : decode mi_103.2.1 5 = .ok (.ifCond .ne 6, 3)) (by decide) rfl
theorem s_103_8 {K : gC} : gOk K g_Ms mi_103 8 (ga_push (.int (-2)) 10) := gs_bipush (by decide +kernel : decode mi_103.2.1 8 = .ok (.bipush (-2), 2)) (by decide) rfl
theorem s_103_10 {K : gC} : gOk K g_Ms mi_103 10 (ga_iret) := gs_iret (by decide +kernel : decode mi_103.2.1 10 = .ok (.ireturn, 1)) rfl
theorem s_103_11 {K : gC} : gOk K g_Ms mi_103 11 (ga_iload 2 12) := gs_iload_n (by decide +kernel : decode mi_103.2.1 11 = .ok (.iload_n 2, 1)) rfl rfl
theorem s_103_12 {K : gC} : gOk K g_Ms mi_103 12 (ga_push (.int 0) 13) := gs_iconst (by decide +kernel : decode mi_103.2.1 12 = .ok (.iconst 0, 1)) (by decide) rfl
theorem s_103_13 {K : gC} : gOk K g_Ms mi_103 13 (ga_push (.int 4) 14) := gs_iconst (by decide +kernel : decode mi_103.2.1 13 = .ok (.iconst 4, 1)) (by decide) rfl
theorem s_103_14 {K : gC} : gOk K g_Ms mi_103 14 (ga_call 83 3 17) := gs_callS (gce_X7_in (by decide) (by decide)) gw_751 gw_752 (by decide +kernel : decode mi_103.2.1 14 = .ok (.invokestatic 65, 3)) rfl
theorem s_103_17 {K : gC} : gOk K g_Ms mi_103 17 (ga_if (fun x => decide (¬ x = 0)) 23 20) := gs_if_ne (by decide +kernel : decode mi_103.2.1 17 = .ok (.ifCond .ne 6, 3)) (by decide) rfl
theorem s_103_20 {K : gC} : gOk K g_Ms mi_103 20 (ga_push (.int (-3)) 22) := gs_bipush (by decide +kernel : decode mi_103.2.1 20 = .ok (.bipush (-3), 2)) (by decide) rfl
theorem s_103_22 {K : gC} : gOk K g_Ms mi_103 22 (ga_iret) := gs_iret (by decide +kernel : decode mi_103.2.1 22 = .ok (.ireturn, 1)) rfl
theorem s_103_23 {K : gC} : gOk K g_Ms mi_103 23 (ga_aload 0 24) := gs_aload_n (by decide +kernel : decode mi_103.2.1 23 = .ok (.aload_n 0, 1)) rfl rfl
theorem s_103_24 {K : gC} : gOk K g_Ms mi_103 24 (ga_getR 7 3 27) := gs_getR gcls_7 (by decide) (by decide) gw_659 (by decide +kernel : decode mi_103.2.1 24 = .ok (.getfield 20, 3)) rfl
theorem s_103_27 {K : gC} : gOk K g_Ms mi_103 27 (ga_iload 1 28) := gs_iload_n (by decide +kernel : decode mi_103.2.1 27 = .ok (.iload_n 1, 1)) rfl rfl
theorem s_103_28 {K : gC} : gOk K g_Ms mi_103 28 (ga_iald 29) := gs_iald (by decide +kernel : decode mi_103.2.1 28 = .ok (.iaload, 1)) rfl
theorem s_103_29 {K : gC} : gOk K g_Ms mi_103 29 (ga_istore 3 30) := gs_istore_n (by decide +kernel : decode mi_103.2.1 29 = .ok (.istore_n 3, 1)) rfl rfl
theorem s_103_30 {K : gC} : gOk K g_Ms mi_103 30 (ga_iload 2 31) := gs_iload_n (by decide +kernel : decode mi_103.2.1 30 = .ok (.iload_n 2, 1)) rfl rfl
theorem s_103_31 {K : gC} : gOk K g_Ms mi_103 31 (ga_if (fun x => decide (x = 0)) 67 34) := gs_if_eq (by decide +kernel : decode mi_103.2.1 31 = .ok (.ifCond .eq 36, 3)) (by decide) rfl
theorem s_103_34 {K : gC} : gOk K g_Ms mi_103 34 (ga_iload 2 35) := gs_iload_n (by decide +kernel : decode mi_103.2.1 34 = .ok (.iload_n 2, 1)) rfl rfl
theorem s_103_35 {K : gC} : gOk K g_Ms mi_103 35 (ga_push (.int 1) 36) := gs_iconst (by decide +kernel : decode mi_103.2.1 35 = .ok (.iconst 1, 1)) (by decide) rfl
theorem s_103_36 {K : gC} : gOk K g_Ms mi_103 36 (ga_cmp (fun x y => decide (¬ x = y)) 47 39) := gs_cmp_ne (by decide +kernel : decode mi_103.2.1 36 = .ok (.if_icmp .ne 11, 3)) (by decide) rfl
theorem s_103_39 {K : gC} : gOk K g_Ms mi_103 39 (ga_iload 3 40) := gs_iload_n (by decide +kernel : decode mi_103.2.1 39 = .ok (.iload_n 3, 1)) rfl rfl
theorem s_103_40 {K : gC} : gOk K g_Ms mi_103 40 (ga_push (.int 1) 41) := gs_iconst (by decide +kernel : decode mi_103.2.1 40 = .ok (.iconst 1, 1)) (by decide) rfl
theorem s_103_41 {K : gC} : gOk K g_Ms mi_103 41 (ga_cmp (fun x y => decide (x = y)) 71 44) := gs_cmp_eq (by decide +kernel : decode mi_103.2.1 41 = .ok (.if_icmp .eq 30, 3)) (by decide) rfl
theorem s_103_44 {K : gC} : gOk K g_Ms mi_103 44 (ga_goto 67) := gs_goto (by decide +kernel : decode mi_103.2.1 44 = .ok (.goto 23, 3)) (by decide)
theorem s_103_47 {K : gC} : gOk K g_Ms mi_103 47 (ga_iload 2 48) := gs_iload_n (by decide +kernel : decode mi_103.2.1 47 = .ok (.iload_n 2, 1)) rfl rfl
theorem s_103_48 {K : gC} : gOk K g_Ms mi_103 48 (ga_push (.int 2) 49) := gs_iconst (by decide +kernel : decode mi_103.2.1 48 = .ok (.iconst 2, 1)) (by decide) rfl
theorem s_103_49 {K : gC} : gOk K g_Ms mi_103 49 (ga_cmp (fun x y => decide (¬ x = y)) 60 52) := gs_cmp_ne (by decide +kernel : decode mi_103.2.1 49 = .ok (.if_icmp .ne 11, 3)) (by decide) rfl
theorem s_103_52 {K : gC} : gOk K g_Ms mi_103 52 (ga_iload 3 53) := gs_iload_n (by decide +kernel : decode mi_103.2.1 52 = .ok (.iload_n 3, 1)) rfl rfl
theorem s_103_53 {K : gC} : gOk K g_Ms mi_103 53 (ga_push (.int 1) 54) := gs_iconst (by decide +kernel : decode mi_103.2.1 53 = .ok (.iconst 1, 1)) (by decide) rfl
theorem s_103_54 {K : gC} : gOk K g_Ms mi_103 54 (ga_cmp (fun x y => decide (¬ x = y)) 71 57) := gs_cmp_ne (by decide +kernel : decode mi_103.2.1 54 = .ok (.if_icmp .ne 17, 3)) (by decide) rfl
theorem s_103_57 {K : gC} : gOk K g_Ms mi_103 57 (ga_goto 67) := gs_goto (by decide +kernel : decode mi_103.2.1 57 = .ok (.goto 10, 3)) (by decide)
theorem s_103_60 {K : gC} : gOk K g_Ms mi_103 60 (ga_iload 3 61) := gs_iload_n (by decide +kernel : decode mi_103.2.1 60 = .ok (.iload_n 3, 1)) rfl rfl
theorem s_103_61 {K : gC} : gOk K g_Ms mi_103 61 (ga_iload 2 62) := gs_iload_n (by decide +kernel : decode mi_103.2.1 61 = .ok (.iload_n 2, 1)) rfl rfl
theorem s_103_62 {K : gC} : gOk K g_Ms mi_103 62 (ga_push (.int 1) 63) := gs_iconst (by decide +kernel : decode mi_103.2.1 62 = .ok (.iconst 1, 1)) (by decide) rfl
theorem s_103_63 {K : gC} : gOk K g_Ms mi_103 63 (ga_bin (fun x y => x - y) 64) := gs_isub (by decide +kernel : decode mi_103.2.1 63 = .ok (.isub, 1)) rfl
theorem s_103_64 {K : gC} : gOk K g_Ms mi_103 64 (ga_cmp (fun x y => decide (¬ x = y)) 71 67) := gs_cmp_ne (by decide +kernel : decode mi_103.2.1 64 = .ok (.if_icmp .ne 7, 3)) (by decide) rfl
theorem s_103_67 {K : gC} : gOk K g_Ms mi_103 67 (ga_push (.int 1) 68) := gs_iconst (by decide +kernel : decode mi_103.2.1 67 = .ok (.iconst 1, 1)) (by decide) rfl
theorem s_103_68 {K : gC} : gOk K g_Ms mi_103 68 (ga_goto 72) := gs_goto (by decide +kernel : decode mi_103.2.1 68 = .ok (.goto 4, 3)) (by decide)
theorem s_103_71 {K : gC} : gOk K g_Ms mi_103 71 (ga_push (.int 0) 72) := gs_iconst (by decide +kernel : decode mi_103.2.1 71 = .ok (.iconst 0, 1)) (by decide) rfl
theorem s_103_72 {K : gC} : gOk K g_Ms mi_103 72 (ga_istore 4 74) := gs_istore (by decide +kernel : decode mi_103.2.1 72 = .ok (.istore 4, 2)) rfl
theorem s_103_74 {K : gC} : gOk K g_Ms mi_103 74 (ga_iload 4 76) := gs_iload (by decide +kernel : decode mi_103.2.1 74 = .ok (.iload 4, 2)) rfl
theorem s_103_76 {K : gC} : gOk K g_Ms mi_103 76 (ga_if (fun x => decide (x = 0)) 87 79) := gs_if_eq (by decide +kernel : decode mi_103.2.1 76 = .ok (.ifCond .eq 11, 3)) (by decide) rfl
theorem s_103_79 {K : gC} : gOk K g_Ms mi_103 79 (ga_aload 0 80) := gs_aload_n (by decide +kernel : decode mi_103.2.1 79 = .ok (.aload_n 0, 1)) rfl rfl
theorem s_103_80 {K : gC} : gOk K g_Ms mi_103 80 (ga_iload 1 81) := gs_iload_n (by decide +kernel : decode mi_103.2.1 80 = .ok (.iload_n 1, 1)) rfl rfl
theorem s_103_81 {K : gC} : gOk K g_Ms mi_103 81 (ga_callV 7 100 1 84) := gs_callV gcls_7 (gce_X7_lateOf (by decide) (by decide)) gw_831 gw_833 gw_25 (by decide +kernel : decode mi_103.2.1 81 = .ok (.invokevirtual 178, 3)) rfl
theorem s_103_84 {K : gC} : gOk K g_Ms mi_103 84 (ga_goto 89) := gs_goto (by decide +kernel : decode mi_103.2.1 84 = .ok (.goto 5, 3)) (by decide)
theorem s_103_87 {K : gC} : gOk K g_Ms mi_103 87 (ga_push (.int (-4)) 89) := gs_bipush (by decide +kernel : decode mi_103.2.1 87 = .ok (.bipush (-4), 2)) (by decide) rfl
theorem s_103_89 {K : gC} : gOk K g_Ms mi_103 89 (ga_iret) := gs_iret (by decide +kernel : decode mi_103.2.1 89 = .ok (.ireturn, 1)) rfl
theorem ok_103 {K : gC} : ∀ e ∈ t_103, gOk K g_Ms mi_103 e.1 e.2 := by
  unfold t_103
  simp only [List.forall_mem_cons, List.not_mem_nil, false_implies, implies_true, and_true]
  exact ⟨s_103_0, s_103_1, s_103_2, s_103_5, s_103_8, s_103_10, s_103_11, s_103_12, s_103_13, s_103_14, s_103_17, s_103_20, s_103_22, s_103_23, s_103_24, s_103_27, s_103_28, s_103_29, s_103_30, s_103_31, s_103_34, s_103_35, s_103_36, s_103_39, s_103_40, s_103_41, s_103_44, s_103_47, s_103_48, s_103_49, s_103_52, s_103_53, s_103_54, s_103_57, s_103_60, s_103_61, s_103_62, s_103_63, s_103_64, s_103_67, s_103_68, s_103_71, s_103_72, s_103_74, s_103_76, s_103_79, s_103_80, s_103_81, s_103_84, s_103_87, s_103_89⟩
theorem s_104_0 {K : gC} : gOk K g_Ms mi_104 0 (ga_push (.int 0) 1) := gs_iconst (by decide +kernel : decode mi_104.2.1 0 = .ok (.iconst 0, 1)) (by decide) rfl
theorem s_104_1 {K : gC} : gOk K g_Ms mi_104 1 (ga_istore 2 2) := gs_istore_n (by decide +kernel : decode mi_104.2.1 1 = .ok (.istore_n 2, 1)) rfl rfl
theorem s_104_2 {K : gC} : gOk K g_Ms mi_104 2 (ga_aload 0 3) := gs_aload_n (by decide +kernel : decode mi_104.2.1 2 = .ok (.aload_n 0, 1)) rfl rfl
theorem s_104_3 {K : gC} : gOk K g_Ms mi_104 3 (ga_getR 7 19 6) := gs_getR gcls_7 (by decide) (by decide) gw_675 (by decide +kernel : decode mi_104.2.1 3 = .ok (.getfield 36, 3)) rfl
theorem s_104_6 {K : gC} : gOk K g_Ms mi_104 6 (ga_iload 1 7) := gs_iload_n (by decide +kernel : decode mi_104.2.1 6 = .ok (.iload_n 1, 1)) rfl rfl
theorem s_104_7 {K : gC} : gOk K g_Ms mi_104 7 (ga_dup2 8) := gs_dup2 (by decide +kernel : decode mi_104.2.1 7 = .ok (.dup2, 1)) rfl
theorem s_104_8 {K : gC} : gOk K g_Ms mi_104 8 (ga_iald 9) := gs_iald (by decide +kernel : decode mi_104.2.1 8 = .ok (.iaload, 1)) rfl
theorem s_104_9 {K : gC} : gOk K g_Ms mi_104 9 (ga_push (.int 1) 10) := gs_iconst (by decide +kernel : decode mi_104.2.1 9 = .ok (.iconst 1, 1)) (by decide) rfl
theorem s_104_10 {K : gC} : gOk K g_Ms mi_104 10 (ga_bin (fun x y => x + y) 11) := gs_iadd (by decide +kernel : decode mi_104.2.1 10 = .ok (.iadd, 1)) rfl
theorem s_104_11 {K : gC} : gOk K g_Ms mi_104 11 (ga_iast 12) := gs_iast (by decide +kernel : decode mi_104.2.1 11 = .ok (.iastore, 1)) rfl
theorem s_104_12 {K : gC} : gOk K g_Ms mi_104 12 (ga_push (.int 0) 13) := gs_iconst (by decide +kernel : decode mi_104.2.1 12 = .ok (.iconst 0, 1)) (by decide) rfl
theorem s_104_13 {K : gC} : gOk K g_Ms mi_104 13 (ga_istore 3 14) := gs_istore_n (by decide +kernel : decode mi_104.2.1 13 = .ok (.istore_n 3, 1)) rfl rfl
theorem s_104_14 {K : gC} : gOk K g_Ms mi_104 14 (ga_iload 3 15) := gs_iload_n (by decide +kernel : decode mi_104.2.1 14 = .ok (.iload_n 3, 1)) rfl rfl
theorem s_104_15 {K : gC} : gOk K g_Ms mi_104 15 (ga_aload 0 16) := gs_aload_n (by decide +kernel : decode mi_104.2.1 15 = .ok (.aload_n 0, 1)) rfl rfl
theorem s_104_16 {K : gC} : gOk K g_Ms mi_104 16 (ga_getI 7 0 19) := gs_getI gcls_7 (by decide) (by decide) gw_656 (by decide +kernel : decode mi_104.2.1 16 = .ok (.getfield 7, 3)) rfl
theorem s_104_19 {K : gC} : gOk K g_Ms mi_104 19 (ga_cmp (fun x y => decide (y ≤ x)) 96 22) := gs_cmp_ge (by decide +kernel : decode mi_104.2.1 19 = .ok (.if_icmp .ge 77, 3)) (by decide) rfl
theorem s_104_22 {K : gC} : gOk K g_Ms mi_104 22 (ga_aload 0 23) := gs_aload_n (by decide +kernel : decode mi_104.2.1 22 = .ok (.aload_n 0, 1)) rfl rfl
theorem s_104_23 {K : gC} : gOk K g_Ms mi_104 23 (ga_getR 7 1 26) := gs_getR gcls_7 (by decide) (by decide) gw_657 (by decide +kernel : decode mi_104.2.1 23 = .ok (.getfield 13, 3)) rfl
theorem s_104_26 {K : gC} : gOk K g_Ms mi_104 26 (ga_iload 3 27) := gs_iload_n (by decide +kernel : decode mi_104.2.1 26 = .ok (.iload_n 3, 1)) rfl rfl
theorem s_104_27 {K : gC} : gOk K g_Ms mi_104 27 (ga_iald 28) := gs_iald (by decide +kernel : decode mi_104.2.1 27 = .ok (.iaload, 1)) rfl
theorem s_104_28 {K : gC} : gOk K g_Ms mi_104 28 (ga_iload 1 29) := gs_iload_n (by decide +kernel : decode mi_104.2.1 28 = .ok (.iload_n 1, 1)) rfl rfl
theorem s_104_29 {K : gC} : gOk K g_Ms mi_104 29 (ga_cmp (fun x y => decide (¬ x = y)) 90 32) := gs_cmp_ne (by decide +kernel : decode mi_104.2.1 29 = .ok (.if_icmp .ne 61, 3)) (by decide) rfl
theorem s_104_32 {K : gC} : gOk K g_Ms mi_104 32 (ga_aload 0 33) := gs_aload_n (by decide +kernel : decode mi_104.2.1 32 = .ok (.aload_n 0, 1)) rfl rfl
theorem s_104_33 {K : gC} : gOk K g_Ms mi_104 33 (ga_iload 3 34) := gs_iload_n (by decide +kernel : decode mi_104.2.1 33 = .ok (.iload_n 3, 1)) rfl rfl
theorem s_104_34 {K : gC} : gOk K g_Ms mi_104 34 (ga_callV 7 99 1 37) := gs_callV gcls_7 (gce_X7_canHear (by decide) (by decide)) gw_823 gw_825 gw_24 (by decide +kernel : decode mi_104.2.1 34 = .ok (.invokevirtual 175, 3)) rfl
theorem s_104_37 {K : gC} : gOk K g_Ms mi_104 37 (ga_if (fun x => decide (x = 0)) 90 40) := gs_if_eq (by decide +kernel : decode mi_104.2.1 37 = .ok (.ifCond .eq 53, 3)) (by decide) rfl
theorem s_104_40 {K : gC} : gOk K g_Ms mi_104 40 (ga_aload 0 41) := gs_aload_n (by decide +kernel : decode mi_104.2.1 40 = .ok (.aload_n 0, 1)) rfl rfl
theorem s_104_41 {K : gC} : gOk K g_Ms mi_104 41 (ga_aload 0 42) := gs_aload_n (by decide +kernel : decode mi_104.2.1 41 = .ok (.aload_n 0, 1)) rfl rfl
theorem s_104_42 {K : gC} : gOk K g_Ms mi_104 42 (ga_getR 7 3 45) := gs_getR gcls_7 (by decide) (by decide) gw_659 (by decide +kernel : decode mi_104.2.1 42 = .ok (.getfield 20, 3)) rfl
theorem s_104_45 {K : gC} : gOk K g_Ms mi_104 45 (ga_iload 3 46) := gs_iload_n (by decide +kernel : decode mi_104.2.1 45 = .ok (.iload_n 3, 1)) rfl rfl
theorem s_104_46 {K : gC} : gOk K g_Ms mi_104 46 (ga_iald 47) := gs_iald (by decide +kernel : decode mi_104.2.1 46 = .ok (.iaload, 1)) rfl
theorem s_104_47 {K : gC} : gOk K g_Ms mi_104 47 (ga_push (.int 3) 48) := gs_iconst (by decide +kernel : decode mi_104.2.1 47 = .ok (.iconst 3, 1)) (by decide) rfl
theorem s_104_48 {K : gC} : gOk K g_Ms mi_104 48 (ga_cmp (fun x y => decide (¬ x = y)) 62 51) := gs_cmp_ne (by decide +kernel : decode mi_104.2.1 48 = .ok (.if_icmp .ne 14, 3)) (by decide) rfl
theorem s_104_51 {K : gC} : gOk K g_Ms mi_104 51 (ga_aload 0 52) := gs_aload_n (by decide +kernel : decode mi_104.2.1 51 = .ok (.aload_n 0, 1)) rfl rfl
theorem s_104_52 {K : gC} : gOk K g_Ms mi_104 52 (ga_getI 7 20 55) := gs_getI gcls_7 (by decide) (by decide) gw_676 (by decide +kernel : decode mi_104.2.1 52 = .ok (.getfield 163, 3)) rfl
theorem s_104_55 {K : gC} : gOk K g_Ms mi_104 55 (ga_push (.int 1) 56) := gs_iconst (by decide +kernel : decode mi_104.2.1 55 = .ok (.iconst 1, 1)) (by decide) rfl
theorem s_104_56 {K : gC} : gOk K g_Ms mi_104 56 (ga_iload 3 57) := gs_iload_n (by decide +kernel : decode mi_104.2.1 56 = .ok (.iload_n 3, 1)) rfl rfl
theorem s_104_57 {K : gC} : gOk K g_Ms mi_104 57 (ga_bin (fun x y => x <<< (y &&& 31)) 58) := gs_ishl (by decide +kernel : decode mi_104.2.1 57 = .ok (.ishl, 1)) rfl
theorem s_104_58 {K : gC} : gOk K g_Ms mi_104 58 (ga_bin (fun x y => x ^^^ y) 59) := gs_ixor (by decide +kernel : decode mi_104.2.1 58 = .ok (.ixor, 1)) rfl
theorem s_104_59 {K : gC} : gOk K g_Ms mi_104 59 (ga_goto 66) := gs_goto (by decide +kernel : decode mi_104.2.1 59 = .ok (.goto 7, 3)) (by decide)
theorem s_104_62 {K : gC} : gOk K g_Ms mi_104 62 (ga_aload 0 63) := gs_aload_n (by decide +kernel : decode mi_104.2.1 62 = .ok (.aload_n 0, 1)) rfl rfl
theorem s_104_63 {K : gC} : gOk K g_Ms mi_104 63 (ga_getI 7 20 66) := gs_getI gcls_7 (by decide) (by decide) gw_676 (by decide +kernel : decode mi_104.2.1 63 = .ok (.getfield 163, 3)) rfl
theorem s_104_66 {K : gC} : gOk K g_Ms mi_104 66 (ga_putI 7 20 69) := gs_putI gcls_7 (by decide) (by decide) rfl rfl gw_676 (by decide +kernel : decode mi_104.2.1 66 = .ok (.putfield 163, 3)) rfl
theorem s_104_69 {K : gC} : gOk K g_Ms mi_104 69 (ga_iload 2 70) := gs_iload_n (by decide +kernel : decode mi_104.2.1 69 = .ok (.iload_n 2, 1)) rfl rfl
theorem s_104_70 {K : gC} : gOk K g_Ms mi_104 70 (ga_aload 0 71) := gs_aload_n (by decide +kernel : decode mi_104.2.1 70 = .ok (.aload_n 0, 1)) rfl rfl
theorem s_104_71 {K : gC} : gOk K g_Ms mi_104 71 (ga_getI 7 20 74) := gs_getI gcls_7 (by decide) (by decide) gw_676 (by decide +kernel : decode mi_104.2.1 71 = .ok (.getfield 163, 3)) rfl
theorem s_104_74 {K : gC} : gOk K g_Ms mi_104 74 (ga_iload 3 75) := gs_iload_n (by decide +kernel : decode mi_104.2.1 74 = .ok (.iload_n 3, 1)) rfl rfl
theorem s_104_75 {K : gC} : gOk K g_Ms mi_104 75 (ga_call 84 2 78) := gs_callS (gce_X7_has (by decide) (by decide)) gw_847 gw_848 (by decide +kernel : decode mi_104.2.1 75 = .ok (.invokestatic 182, 3)) rfl
theorem s_104_78 {K : gC} : gOk K g_Ms mi_104 78 (ga_if (fun x => decide (x = 0)) 85 81) := gs_if_eq (by decide +kernel : decode mi_104.2.1 78 = .ok (.ifCond .eq 7, 3)) (by decide) rfl
theorem s_104_81 {K : gC} : gOk K g_Ms mi_104 81 (ga_push (.int 0) 82) := gs_iconst (by decide +kernel : decode mi_104.2.1 81 = .ok (.iconst 0, 1)) (by decide) rfl
theorem s_104_82 {K : gC} : gOk K g_Ms mi_104 82 (ga_goto 88) := gs_goto (by decide +kernel : decode mi_104.2.1 82 = .ok (.goto 6, 3)) (by decide)
theorem s_104_85 {K : gC} : gOk K g_Ms mi_104 85 (ga_push (.int 1) 86) := gs_iconst (by decide +kernel : decode mi_104.2.1 85 = .ok (.iconst 1, 1)) (by decide) rfl
theorem s_104_86 {K : gC} : gOk K g_Ms mi_104 86 (ga_iload 3 87) := gs_iload_n (by decide +kernel : decode mi_104.2.1 86 = .ok (.iload_n 3, 1)) rfl rfl
theorem s_104_87 {K : gC} : gOk K g_Ms mi_104 87 (ga_bin (fun x y => x <<< (y &&& 31)) 88) := gs_ishl (by decide +kernel : decode mi_104.2.1 87 = .ok (.ishl, 1)) rfl
theorem s_104_88 {K : gC} : gOk K g_Ms mi_104 88 (ga_bin (fun x y => x ||| y) 89) := gs_ior (by decide +kernel : decode mi_104.2.1 88 = .ok (.ior, 1)) rfl
theorem s_104_89 {K : gC} : gOk K g_Ms mi_104 89 (ga_istore 2 90) := gs_istore_n (by decide +kernel : decode mi_104.2.1 89 = .ok (.istore_n 2, 1)) rfl rfl
theorem s_104_90 {K : gC} : gOk K g_Ms mi_104 90 (ga_iinc 3 1 93) := gs_iinc (by decide +kernel : decode mi_104.2.1 90 = .ok (.iinc 3 1, 3)) (by decide) rfl
theorem s_104_93 {K : gC} : gOk K g_Ms mi_104 93 (ga_goto 14) := gs_goto (by decide +kernel : decode mi_104.2.1 93 = .ok (.goto (-79), 3)) (by decide)
theorem s_104_96 {K : gC} : gOk K g_Ms mi_104 96 (ga_push (.int 0) 97) := gs_iconst (by decide +kernel : decode mi_104.2.1 96 = .ok (.iconst 0, 1)) (by decide) rfl
theorem s_104_97 {K : gC} : gOk K g_Ms mi_104 97 (ga_istore 3 98) := gs_istore_n (by decide +kernel : decode mi_104.2.1 97 = .ok (.istore_n 3, 1)) rfl rfl
theorem s_104_98 {K : gC} : gOk K g_Ms mi_104 98 (ga_iload 3 99) := gs_iload_n (by decide +kernel : decode mi_104.2.1 98 = .ok (.iload_n 3, 1)) rfl rfl
theorem s_104_99 {K : gC} : gOk K g_Ms mi_104 99 (ga_aload 0 100) := gs_aload_n (by decide +kernel : decode mi_104.2.1 99 = .ok (.aload_n 0, 1)) rfl rfl
theorem s_104_100 {K : gC} : gOk K g_Ms mi_104 100 (ga_getI 7 0 103) := gs_getI gcls_7 (by decide) (by decide) gw_656 (by decide +kernel : decode mi_104.2.1 100 = .ok (.getfield 7, 3)) rfl
theorem s_104_103 {K : gC} : gOk K g_Ms mi_104 103 (ga_cmp (fun x y => decide (y ≤ x)) 144 106) := gs_cmp_ge (by decide +kernel : decode mi_104.2.1 103 = .ok (.if_icmp .ge 41, 3)) (by decide) rfl
theorem s_104_106 {K : gC} : gOk K g_Ms mi_104 106 (ga_aload 0 107) := gs_aload_n (by decide +kernel : decode mi_104.2.1 106 = .ok (.aload_n 0, 1)) rfl rfl
theorem s_104_107 {K : gC} : gOk K g_Ms mi_104 107 (ga_getR 7 18 110) := gs_getR gcls_7 (by decide) (by decide) gw_674 (by decide +kernel : decode mi_104.2.1 107 = .ok (.getfield 32, 3)) rfl
theorem s_104_110 {K : gC} : gOk K g_Ms mi_104 110 (ga_iload 3 111) := gs_iload_n (by decide +kernel : decode mi_104.2.1 110 = .ok (.iload_n 3, 1)) rfl rfl
theorem s_104_111 {K : gC} : gOk K g_Ms mi_104 111 (ga_aload 0 112) := gs_aload_n (by decide +kernel : decode mi_104.2.1 111 = .ok (.aload_n 0, 1)) rfl rfl
theorem s_104_112 {K : gC} : gOk K g_Ms mi_104 112 (ga_getR 7 18 115) := gs_getR gcls_7 (by decide) (by decide) gw_674 (by decide +kernel : decode mi_104.2.1 112 = .ok (.getfield 32, 3)) rfl
theorem s_104_115 {K : gC} : gOk K g_Ms mi_104 115 (ga_iload 3 116) := gs_iload_n (by decide +kernel : decode mi_104.2.1 115 = .ok (.iload_n 3, 1)) rfl rfl
theorem s_104_116 {K : gC} : gOk K g_Ms mi_104 116 (ga_lald 117) := gs_lald (by decide +kernel : decode mi_104.2.1 116 = .ok (.laload, 1)) rfl
theorem s_104_117 {K : gC} : gOk K g_Ms mi_104 117 (ga_iload 2 118) := gs_iload_n (by decide +kernel : decode mi_104.2.1 117 = .ok (.iload_n 2, 1)) rfl rfl
theorem s_104_118 {K : gC} : gOk K g_Ms mi_104 118 (ga_iload 3 119) := gs_iload_n (by decide +kernel : decode mi_104.2.1 118 = .ok (.iload_n 3, 1)) rfl rfl
theorem s_104_119 {K : gC} : gOk K g_Ms mi_104 119 (ga_call 84 2 122) := gs_callS (gce_X7_has (by decide) (by decide)) gw_847 gw_848 (by decide +kernel : decode mi_104.2.1 119 = .ok (.invokestatic 182, 3)) rfl
theorem s_104_122 {K : gC} : gOk K g_Ms mi_104 122 (ga_if (fun x => decide (x = 0)) 135 125) := gs_if_eq (by decide +kernel : decode mi_104.2.1 122 = .ok (.ifCond .eq 13, 3)) (by decide) rfl
theorem s_104_125 {K : gC} : gOk K g_Ms mi_104 125 (ga_push (.long 1) 126) := gs_lconst (by decide +kernel : decode mi_104.2.1 125 = .ok (.lconst 1, 1)) (by decide) rfl
theorem s_104_126 {K : gC} : gOk K g_Ms mi_104 126 (ga_aload 0 127) := gs_aload_n (by decide +kernel : decode mi_104.2.1 126 = .ok (.aload_n 0, 1)) rfl rfl
theorem s_104_127 {K : gC} : gOk K g_Ms mi_104 127 (ga_iload 3 128) := gs_iload_n (by decide +kernel : decode mi_104.2.1 127 = .ok (.iload_n 3, 1)) rfl rfl
theorem s_104_128 {K : gC} : gOk K g_Ms mi_104 128 (ga_callV 7 100 1 131) := gs_callV gcls_7 (gce_X7_lateOf (by decide) (by decide)) gw_831 gw_833 gw_25 (by decide +kernel : decode mi_104.2.1 128 = .ok (.invokevirtual 178, 3)) rfl
theorem s_104_131 {K : gC} : gOk K g_Ms mi_104 131 (ga_lsh (fun x y => x <<< (y.toInt64 &&& 63)) 132) := gs_lshl (by decide +kernel : decode mi_104.2.1 131 = .ok (.lshl, 1)) rfl
theorem s_104_132 {K : gC} : gOk K g_Ms mi_104 132 (ga_goto 136) := gs_goto (by decide +kernel : decode mi_104.2.1 132 = .ok (.goto 4, 3)) (by decide)
theorem s_104_135 {K : gC} : gOk K g_Ms mi_104 135 (ga_push (.long 0) 136) := gs_lconst (by decide +kernel : decode mi_104.2.1 135 = .ok (.lconst 0, 1)) (by decide) rfl
theorem s_104_136 {K : gC} : gOk K g_Ms mi_104 136 (ga_lbin (fun x y => x ||| y) 137) := gs_lor (by decide +kernel : decode mi_104.2.1 136 = .ok (.lor, 1)) rfl
theorem s_104_137 {K : gC} : gOk K g_Ms mi_104 137 (ga_last 138) := gs_last (by decide +kernel : decode mi_104.2.1 137 = .ok (.lastore, 1)) rfl
theorem s_104_138 {K : gC} : gOk K g_Ms mi_104 138 (ga_iinc 3 1 141) := gs_iinc (by decide +kernel : decode mi_104.2.1 138 = .ok (.iinc 3 1, 3)) (by decide) rfl
theorem s_104_141 {K : gC} : gOk K g_Ms mi_104 141 (ga_goto 98) := gs_goto (by decide +kernel : decode mi_104.2.1 141 = .ok (.goto (-43), 3)) (by decide)
theorem s_104_144 {K : gC} : gOk K g_Ms mi_104 144 (ga_iload 2 145) := gs_iload_n (by decide +kernel : decode mi_104.2.1 144 = .ok (.iload_n 2, 1)) rfl rfl
theorem s_104_145 {K : gC} : gOk K g_Ms mi_104 145 (ga_iret) := gs_iret (by decide +kernel : decode mi_104.2.1 145 = .ok (.ireturn, 1)) rfl
theorem ok_104 {K : gC} : ∀ e ∈ t_104, gOk K g_Ms mi_104 e.1 e.2 := by
  unfold t_104
  simp only [List.forall_mem_cons, List.not_mem_nil, false_implies, implies_true, and_true]
  exact ⟨s_104_0, s_104_1, s_104_2, s_104_3, s_104_6, s_104_7, s_104_8, s_104_9, s_104_10, s_104_11, s_104_12, s_104_13, s_104_14, s_104_15, s_104_16, s_104_19, s_104_22, s_104_23, s_104_26, s_104_27, s_104_28, s_104_29, s_104_32, s_104_33, s_104_34, s_104_37, s_104_40, s_104_41, s_104_42, s_104_45, s_104_46, s_104_47, s_104_48, s_104_51, s_104_52, s_104_55, s_104_56, s_104_57, s_104_58, s_104_59, s_104_62, s_104_63, s_104_66, s_104_69, s_104_70, s_104_71, s_104_74, s_104_75, s_104_78, s_104_81, s_104_82, s_104_85, s_104_86, s_104_87, s_104_88, s_104_89, s_104_90, s_104_93, s_104_96, s_104_97, s_104_98, s_104_99, s_104_100, s_104_103, s_104_106, s_104_107, s_104_110, s_104_111, s_104_112, s_104_115, s_104_116, s_104_117, s_104_118, s_104_119, s_104_122, s_104_125, s_104_126, s_104_127, s_104_128, s_104_131, s_104_132, s_104_135, s_104_136, s_104_137, s_104_138, s_104_141, s_104_144, s_104_145⟩
theorem s_105_0 {K : gC} : gOk K g_Ms mi_105 0 (ga_aload 0 1) := gs_aload_n (by decide +kernel : decode mi_105.2.1 0 = .ok (.aload_n 0, 1)) rfl rfl
theorem s_105_1 {K : gC} : gOk K g_Ms mi_105 1 (ga_iload 1 2) := gs_iload_n (by decide +kernel : decode mi_105.2.1 1 = .ok (.iload_n 1, 1)) rfl rfl
theorem s_105_2 {K : gC} : gOk K g_Ms mi_105 2 (ga_callV 7 85 1 5) := gs_callV gcls_7 (gce_X7_isGong (by decide) (by decide)) gw_819 gw_821 gw_23 (by decide +kernel : decode mi_105.2.1 2 = .ok (.invokevirtual 172, 3)) rfl
theorem s_105_5 {K : gC} : gOk K g_Ms mi_105 5 (ga_if (fun x => decide (x = 0)) 16 8) := gs_if_eq (by decide +kernel : decode mi_105.2.1 5 = .ok (.ifCond .eq 11, 3)) (by decide) rfl
theorem s_105_8 {K : gC} : gOk K g_Ms mi_105 8 (ga_aload 0 9) := gs_aload_n (by decide +kernel : decode mi_105.2.1 8 = .ok (.aload_n 0, 1)) rfl rfl
theorem s_105_9 {K : gC} : gOk K g_Ms mi_105 9 (ga_iload 1 10) := gs_iload_n (by decide +kernel : decode mi_105.2.1 9 = .ok (.iload_n 1, 1)) rfl rfl
theorem s_105_10 {K : gC} : gOk K g_Ms mi_105 10 (ga_callV 7 104 1 13) := gs_callV gcls_7 (gce_X7_sound (by decide) (by decide)) gw_843 gw_845 gw_26 (by decide +kernel : decode mi_105.2.1 10 = .ok (.invokevirtual 186, 3)) rfl
theorem s_105_13 {K : gC} : gOk K g_Ms mi_105 13 (ga_goto 18) := gs_goto (by decide +kernel : decode mi_105.2.1 13 = .ok (.goto 5, 3)) (by decide)
theorem s_105_16 {K : gC} : gOk K g_Ms mi_105 16 (ga_push (.int (-2)) 18) := gs_bipush (by decide +kernel : decode mi_105.2.1 16 = .ok (.bipush (-2), 2)) (by decide) rfl
theorem s_105_18 {K : gC} : gOk K g_Ms mi_105 18 (ga_iret) := gs_iret (by decide +kernel : decode mi_105.2.1 18 = .ok (.ireturn, 1)) rfl
theorem ok_105 {K : gC} : ∀ e ∈ t_105, gOk K g_Ms mi_105 e.1 e.2 := by
  unfold t_105
  simp only [List.forall_mem_cons, List.not_mem_nil, false_implies, implies_true, and_true]
  exact ⟨s_105_0, s_105_1, s_105_2, s_105_5, s_105_8, s_105_9, s_105_10, s_105_13, s_105_16, s_105_18⟩
theorem s_106_0 {K : gC} : gOk K g_Ms mi_106 0 (ga_push (.int 0) 1) := gs_iconst (by decide +kernel : decode mi_106.2.1 0 = .ok (.iconst 0, 1)) (by decide) rfl
theorem s_106_1 {K : gC} : gOk K g_Ms mi_106 1 (ga_istore 1 2) := gs_istore_n (by decide +kernel : decode mi_106.2.1 1 = .ok (.istore_n 1, 1)) rfl rfl
theorem s_106_2 {K : gC} : gOk K g_Ms mi_106 2 (ga_aload 0 3) := gs_aload_n (by decide +kernel : decode mi_106.2.1 2 = .ok (.aload_n 0, 1)) rfl rfl
theorem s_106_3 {K : gC} : gOk K g_Ms mi_106 3 (ga_dup 4) := gs_dup (by decide +kernel : decode mi_106.2.1 3 = .ok (.dup, 1)) rfl
theorem s_106_4 {K : gC} : gOk K g_Ms mi_106 4 (ga_getI 7 21 7) := gs_getI gcls_7 (by decide) (by decide) gw_677 (by decide +kernel : decode mi_106.2.1 4 = .ok (.getfield 166, 3)) rfl
theorem s_106_7 {K : gC} : gOk K g_Ms mi_106 7 (ga_push (.int 1) 8) := gs_iconst (by decide +kernel : decode mi_106.2.1 7 = .ok (.iconst 1, 1)) (by decide) rfl
theorem s_106_8 {K : gC} : gOk K g_Ms mi_106 8 (ga_bin (fun x y => x + y) 9) := gs_iadd (by decide +kernel : decode mi_106.2.1 8 = .ok (.iadd, 1)) rfl
theorem s_106_9 {K : gC} : gOk K g_Ms mi_106 9 (ga_putI 7 21 12) := gs_putI gcls_7 (by decide) (by decide) rfl rfl gw_677 (by decide +kernel : decode mi_106.2.1 9 = .ok (.putfield 166, 3)) rfl
theorem s_106_12 {K : gC} : gOk K g_Ms mi_106 12 (ga_push (.int 0) 13) := gs_iconst (by decide +kernel : decode mi_106.2.1 12 = .ok (.iconst 0, 1)) (by decide) rfl
theorem s_106_13 {K : gC} : gOk K g_Ms mi_106 13 (ga_istore 2 14) := gs_istore_n (by decide +kernel : decode mi_106.2.1 13 = .ok (.istore_n 2, 1)) rfl rfl
theorem s_106_14 {K : gC} : gOk K g_Ms mi_106 14 (ga_iload 2 15) := gs_iload_n (by decide +kernel : decode mi_106.2.1 14 = .ok (.iload_n 2, 1)) rfl rfl
theorem s_106_15 {K : gC} : gOk K g_Ms mi_106 15 (ga_aload 0 16) := gs_aload_n (by decide +kernel : decode mi_106.2.1 15 = .ok (.aload_n 0, 1)) rfl rfl
theorem s_106_16 {K : gC} : gOk K g_Ms mi_106 16 (ga_getI 7 0 19) := gs_getI gcls_7 (by decide) (by decide) gw_656 (by decide +kernel : decode mi_106.2.1 16 = .ok (.getfield 7, 3)) rfl
theorem s_106_19 {K : gC} : gOk K g_Ms mi_106 19 (ga_cmp (fun x y => decide (y ≤ x)) 81 22) := gs_cmp_ge (by decide +kernel : decode mi_106.2.1 19 = .ok (.if_icmp .ge 62, 3)) (by decide) rfl
theorem s_106_22 {K : gC} : gOk K g_Ms mi_106 22 (ga_aload 0 23) := gs_aload_n (by decide +kernel : decode mi_106.2.1 22 = .ok (.aload_n 0, 1)) rfl rfl
theorem s_106_23 {K : gC} : gOk K g_Ms mi_106 23 (ga_getR 7 18 26) := gs_getR gcls_7 (by decide) (by decide) gw_674 (by decide +kernel : decode mi_106.2.1 23 = .ok (.getfield 32, 3)) rfl
theorem s_106_26 {K : gC} : gOk K g_Ms mi_106 26 (ga_iload 2 27) := gs_iload_n (by decide +kernel : decode mi_106.2.1 26 = .ok (.iload_n 2, 1)) rfl rfl
theorem s_106_27 {K : gC} : gOk K g_Ms mi_106 27 (ga_aload 0 28) := gs_aload_n (by decide +kernel : decode mi_106.2.1 27 = .ok (.aload_n 0, 1)) rfl rfl
theorem s_106_28 {K : gC} : gOk K g_Ms mi_106 28 (ga_getR 7 18 31) := gs_getR gcls_7 (by decide) (by decide) gw_674 (by decide +kernel : decode mi_106.2.1 28 = .ok (.getfield 32, 3)) rfl
theorem s_106_31 {K : gC} : gOk K g_Ms mi_106 31 (ga_iload 2 32) := gs_iload_n (by decide +kernel : decode mi_106.2.1 31 = .ok (.iload_n 2, 1)) rfl rfl
theorem s_106_32 {K : gC} : gOk K g_Ms mi_106 32 (ga_lald 33) := gs_lald (by decide +kernel : decode mi_106.2.1 32 = .ok (.laload, 1)) rfl
theorem s_106_33 {K : gC} : gOk K g_Ms mi_106 33 (ga_push (.int 1) 34) := gs_iconst (by decide +kernel : decode mi_106.2.1 33 = .ok (.iconst 1, 1)) (by decide) rfl
theorem s_106_34 {K : gC} : gOk K g_Ms mi_106 34 (ga_lsh (fun x y => x >>> (y.toInt64 &&& 63)) 35) := gs_lshr (by decide +kernel : decode mi_106.2.1 34 = .ok (.lshr, 1)) rfl
theorem s_106_35 {K : gC} : gOk K g_Ms mi_106 35 (ga_last 36) := gs_last (by decide +kernel : decode mi_106.2.1 35 = .ok (.lastore, 1)) rfl
theorem s_106_36 {K : gC} : gOk K g_Ms mi_106 36 (ga_iload 1 37) := gs_iload_n (by decide +kernel : decode mi_106.2.1 36 = .ok (.iload_n 1, 1)) rfl rfl
theorem s_106_37 {K : gC} : gOk K g_Ms mi_106 37 (ga_aload 0 38) := gs_aload_n (by decide +kernel : decode mi_106.2.1 37 = .ok (.aload_n 0, 1)) rfl rfl
theorem s_106_38 {K : gC} : gOk K g_Ms mi_106 38 (ga_getR 7 18 41) := gs_getR gcls_7 (by decide) (by decide) gw_674 (by decide +kernel : decode mi_106.2.1 38 = .ok (.getfield 32, 3)) rfl
theorem s_106_41 {K : gC} : gOk K g_Ms mi_106 41 (ga_iload 2 42) := gs_iload_n (by decide +kernel : decode mi_106.2.1 41 = .ok (.iload_n 2, 1)) rfl rfl
theorem s_106_42 {K : gC} : gOk K g_Ms mi_106 42 (ga_lald 43) := gs_lald (by decide +kernel : decode mi_106.2.1 42 = .ok (.laload, 1)) rfl
theorem s_106_43 {K : gC} : gOk K g_Ms mi_106 43 (ga_push (.long 1) 44) := gs_lconst (by decide +kernel : decode mi_106.2.1 43 = .ok (.lconst 1, 1)) (by decide) rfl
theorem s_106_44 {K : gC} : gOk K g_Ms mi_106 44 (ga_lbin (fun x y => x &&& y) 45) := gs_land (by decide +kernel : decode mi_106.2.1 44 = .ok (.land, 1)) rfl
theorem s_106_45 {K : gC} : gOk K g_Ms mi_106 45 (ga_push (.long 1) 46) := gs_lconst (by decide +kernel : decode mi_106.2.1 45 = .ok (.lconst 1, 1)) (by decide) rfl
theorem s_106_46 {K : gC} : gOk K g_Ms mi_106 46 (ga_lcmp 47) := gs_lcmp (by decide +kernel : decode mi_106.2.1 46 = .ok (.lcmp, 1)) rfl
theorem s_106_47 {K : gC} : gOk K g_Ms mi_106 47 (ga_if (fun x => decide (¬ x = 0)) 56 50) := gs_if_ne (by decide +kernel : decode mi_106.2.1 47 = .ok (.ifCond .ne 9, 3)) (by decide) rfl
theorem s_106_50 {K : gC} : gOk K g_Ms mi_106 50 (ga_push (.int 1) 51) := gs_iconst (by decide +kernel : decode mi_106.2.1 50 = .ok (.iconst 1, 1)) (by decide) rfl
theorem s_106_51 {K : gC} : gOk K g_Ms mi_106 51 (ga_iload 2 52) := gs_iload_n (by decide +kernel : decode mi_106.2.1 51 = .ok (.iload_n 2, 1)) rfl rfl
theorem s_106_52 {K : gC} : gOk K g_Ms mi_106 52 (ga_bin (fun x y => x <<< (y &&& 31)) 53) := gs_ishl (by decide +kernel : decode mi_106.2.1 52 = .ok (.ishl, 1)) rfl
theorem s_106_53 {K : gC} : gOk K g_Ms mi_106 53 (ga_goto 57) := gs_goto (by decide +kernel : decode mi_106.2.1 53 = .ok (.goto 4, 3)) (by decide)
theorem s_106_56 {K : gC} : gOk K g_Ms mi_106 56 (ga_push (.int 0) 57) := gs_iconst (by decide +kernel : decode mi_106.2.1 56 = .ok (.iconst 0, 1)) (by decide) rfl
theorem s_106_57 {K : gC} : gOk K g_Ms mi_106 57 (ga_bin (fun x y => x ||| y) 58) := gs_ior (by decide +kernel : decode mi_106.2.1 57 = .ok (.ior, 1)) rfl
theorem s_106_58 {K : gC} : gOk K g_Ms mi_106 58 (ga_istore 1 59) := gs_istore_n (by decide +kernel : decode mi_106.2.1 58 = .ok (.istore_n 1, 1)) rfl rfl
theorem s_106_59 {K : gC} : gOk K g_Ms mi_106 59 (ga_aload 0 60) := gs_aload_n (by decide +kernel : decode mi_106.2.1 59 = .ok (.aload_n 0, 1)) rfl rfl
theorem s_106_60 {K : gC} : gOk K g_Ms mi_106 60 (ga_getR 7 18 63) := gs_getR gcls_7 (by decide) (by decide) gw_674 (by decide +kernel : decode mi_106.2.1 60 = .ok (.getfield 32, 3)) rfl
theorem s_106_63 {K : gC} : gOk K g_Ms mi_106 63 (ga_iload 2 64) := gs_iload_n (by decide +kernel : decode mi_106.2.1 63 = .ok (.iload_n 2, 1)) rfl rfl
theorem s_106_64 {K : gC} : gOk K g_Ms mi_106 64 (ga_aload 0 65) := gs_aload_n (by decide +kernel : decode mi_106.2.1 64 = .ok (.aload_n 0, 1)) rfl rfl
theorem s_106_65 {K : gC} : gOk K g_Ms mi_106 65 (ga_getR 7 18 68) := gs_getR gcls_7 (by decide) (by decide) gw_674 (by decide +kernel : decode mi_106.2.1 65 = .ok (.getfield 32, 3)) rfl
theorem s_106_68 {K : gC} : gOk K g_Ms mi_106 68 (ga_iload 2 69) := gs_iload_n (by decide +kernel : decode mi_106.2.1 68 = .ok (.iload_n 2, 1)) rfl rfl
theorem s_106_69 {K : gC} : gOk K g_Ms mi_106 69 (ga_lald 70) := gs_lald (by decide +kernel : decode mi_106.2.1 69 = .ok (.laload, 1)) rfl
theorem s_106_70 {K : gC} : gOk K g_Ms mi_106 70 (ga_push (.long (-2)) 73) := gs_ldc2 (by decide +kernel : decode mi_106.2.1 70 = .ok (.ldc2_w 89, 3)) gw_775 rfl
theorem s_106_73 {K : gC} : gOk K g_Ms mi_106 73 (ga_lbin (fun x y => x &&& y) 74) := gs_land (by decide +kernel : decode mi_106.2.1 73 = .ok (.land, 1)) rfl
theorem s_106_74 {K : gC} : gOk K g_Ms mi_106 74 (ga_last 75) := gs_last (by decide +kernel : decode mi_106.2.1 74 = .ok (.lastore, 1)) rfl
theorem s_106_75 {K : gC} : gOk K g_Ms mi_106 75 (ga_iinc 2 1 78) := gs_iinc (by decide +kernel : decode mi_106.2.1 75 = .ok (.iinc 2 1, 3)) (by decide) rfl
theorem s_106_78 {K : gC} : gOk K g_Ms mi_106 78 (ga_goto 14) := gs_goto (by decide +kernel : decode mi_106.2.1 78 = .ok (.goto (-64), 3)) (by decide)
theorem s_106_81 {K : gC} : gOk K g_Ms mi_106 81 (ga_push (.int 0) 82) := gs_iconst (by decide +kernel : decode mi_106.2.1 81 = .ok (.iconst 0, 1)) (by decide) rfl
theorem s_106_82 {K : gC} : gOk K g_Ms mi_106 82 (ga_istore 2 83) := gs_istore_n (by decide +kernel : decode mi_106.2.1 82 = .ok (.istore_n 2, 1)) rfl rfl
theorem s_106_83 {K : gC} : gOk K g_Ms mi_106 83 (ga_push (.int 0) 84) := gs_iconst (by decide +kernel : decode mi_106.2.1 83 = .ok (.iconst 0, 1)) (by decide) rfl
theorem s_106_84 {K : gC} : gOk K g_Ms mi_106 84 (ga_istore 3 85) := gs_istore_n (by decide +kernel : decode mi_106.2.1 84 = .ok (.istore_n 3, 1)) rfl rfl
theorem s_106_85 {K : gC} : gOk K g_Ms mi_106 85 (ga_iload 3 86) := gs_iload_n (by decide +kernel : decode mi_106.2.1 85 = .ok (.iload_n 3, 1)) rfl rfl
theorem s_106_86 {K : gC} : gOk K g_Ms mi_106 86 (ga_aload 0 87) := gs_aload_n (by decide +kernel : decode mi_106.2.1 86 = .ok (.aload_n 0, 1)) rfl rfl
theorem s_106_87 {K : gC} : gOk K g_Ms mi_106 87 (ga_getI 7 0 90) := gs_getI gcls_7 (by decide) (by decide) gw_656 (by decide +kernel : decode mi_106.2.1 87 = .ok (.getfield 7, 3)) rfl
theorem s_106_90 {K : gC} : gOk K g_Ms mi_106 90 (ga_cmp (fun x y => decide (y ≤ x)) 116 93) := gs_cmp_ge (by decide +kernel : decode mi_106.2.1 90 = .ok (.if_icmp .ge 26, 3)) (by decide) rfl
theorem s_106_93 {K : gC} : gOk K g_Ms mi_106 93 (ga_iload 1 94) := gs_iload_n (by decide +kernel : decode mi_106.2.1 93 = .ok (.iload_n 1, 1)) rfl rfl
theorem s_106_94 {K : gC} : gOk K g_Ms mi_106 94 (ga_iload 3 95) := gs_iload_n (by decide +kernel : decode mi_106.2.1 94 = .ok (.iload_n 3, 1)) rfl rfl
theorem s_106_95 {K : gC} : gOk K g_Ms mi_106 95 (ga_call 84 2 98) := gs_callS (gce_X7_has (by decide) (by decide)) gw_847 gw_848 (by decide +kernel : decode mi_106.2.1 95 = .ok (.invokestatic 182, 3)) rfl
theorem s_106_98 {K : gC} : gOk K g_Ms mi_106 98 (ga_if (fun x => decide (x = 0)) 110 101) := gs_if_eq (by decide +kernel : decode mi_106.2.1 98 = .ok (.ifCond .eq 12, 3)) (by decide) rfl
theorem s_106_101 {K : gC} : gOk K g_Ms mi_106 101 (ga_aload 0 102) := gs_aload_n (by decide +kernel : decode mi_106.2.1 101 = .ok (.aload_n 0, 1)) rfl rfl
theorem s_106_102 {K : gC} : gOk K g_Ms mi_106 102 (ga_iload 3 103) := gs_iload_n (by decide +kernel : decode mi_106.2.1 102 = .ok (.iload_n 3, 1)) rfl rfl
theorem s_106_103 {K : gC} : gOk K g_Ms mi_106 103 (ga_callV 7 104 1 106) := gs_callV gcls_7 (gce_X7_sound (by decide) (by decide)) gw_843 gw_845 gw_26 (by decide +kernel : decode mi_106.2.1 103 = .ok (.invokevirtual 186, 3)) rfl
theorem s_106_106 {K : gC} : gOk K g_Ms mi_106 106 (ga_pop 107) := gs_pop (by decide +kernel : decode mi_106.2.1 106 = .ok (.pop, 1)) rfl
theorem s_106_107 {K : gC} : gOk K g_Ms mi_106 107 (ga_iinc 2 1 110) := gs_iinc (by decide +kernel : decode mi_106.2.1 107 = .ok (.iinc 2 1, 3)) (by decide) rfl
theorem s_106_110 {K : gC} : gOk K g_Ms mi_106 110 (ga_iinc 3 1 113) := gs_iinc (by decide +kernel : decode mi_106.2.1 110 = .ok (.iinc 3 1, 3)) (by decide) rfl
theorem s_106_113 {K : gC} : gOk K g_Ms mi_106 113 (ga_goto 85) := gs_goto (by decide +kernel : decode mi_106.2.1 113 = .ok (.goto (-28), 3)) (by decide)
theorem s_106_116 {K : gC} : gOk K g_Ms mi_106 116 (ga_iload 2 117) := gs_iload_n (by decide +kernel : decode mi_106.2.1 116 = .ok (.iload_n 2, 1)) rfl rfl
theorem s_106_117 {K : gC} : gOk K g_Ms mi_106 117 (ga_iret) := gs_iret (by decide +kernel : decode mi_106.2.1 117 = .ok (.ireturn, 1)) rfl
theorem ok_106 {K : gC} : ∀ e ∈ t_106, gOk K g_Ms mi_106 e.1 e.2 := by
  unfold t_106
  simp only [List.forall_mem_cons, List.not_mem_nil, false_implies, implies_true, and_true]
  exact ⟨s_106_0, s_106_1, s_106_2, s_106_3, s_106_4, s_106_7, s_106_8, s_106_9, s_106_12, s_106_13, s_106_14, s_106_15, s_106_16, s_106_19, s_106_22, s_106_23, s_106_26, s_106_27, s_106_28, s_106_31, s_106_32, s_106_33, s_106_34, s_106_35, s_106_36, s_106_37, s_106_38, s_106_41, s_106_42, s_106_43, s_106_44, s_106_45, s_106_46, s_106_47, s_106_50, s_106_51, s_106_52, s_106_53, s_106_56, s_106_57, s_106_58, s_106_59, s_106_60, s_106_63, s_106_64, s_106_65, s_106_68, s_106_69, s_106_70, s_106_73, s_106_74, s_106_75, s_106_78, s_106_81, s_106_82, s_106_83, s_106_84, s_106_85, s_106_86, s_106_87, s_106_90, s_106_93, s_106_94, s_106_95, s_106_98, s_106_101, s_106_102, s_106_103, s_106_106, s_106_107, s_106_110, s_106_113, s_106_116, s_106_117⟩
theorem s_107_0 {K : gC} : gOk K g_Ms mi_107 0 (ga_iload 1 1) := gs_iload_n (by decide +kernel : decode mi_107.2.1 0 = .ok (.iload_n 1, 1)) rfl rfl
theorem s_107_1 {K : gC} : gOk K g_Ms mi_107 1 (ga_push (.int 1) 2) := gs_iconst (by decide +kernel : decode mi_107.2.1 1 = .ok (.iconst 1, 1)) (by decide) rfl
theorem s_107_2 {K : gC} : gOk K g_Ms mi_107 2 (ga_push (.int 99) 4) := gs_bipush (by decide +kernel : decode mi_107.2.1 2 = .ok (.bipush 99, 2)) (by decide) rfl
theorem s_107_4 {K : gC} : gOk K g_Ms mi_107 4 (ga_call 83 3 7) := gs_callS (gce_X7_in (by decide) (by decide)) gw_751 gw_752 (by decide +kernel : decode mi_107.2.1 4 = .ok (.invokestatic 65, 3)) rfl
theorem s_107_7 {K : gC} : gOk K g_Ms mi_107 7 (ga_if (fun x => decide (¬ x = 0)) 13 10) := gs_if_ne (by decide +kernel : decode mi_107.2.1 7 = .ok (.ifCond .ne 6, 3)) (by decide) rfl
theorem s_107_10 {K : gC} : gOk K g_Ms mi_107 10 (ga_push (.int (-3)) 12) := gs_bipush (by decide +kernel : decode mi_107.2.1 10 = .ok (.bipush (-3), 2)) (by decide) rfl
theorem s_107_12 {K : gC} : gOk K g_Ms mi_107 12 (ga_iret) := gs_iret (by decide +kernel : decode mi_107.2.1 12 = .ok (.ireturn, 1)) rfl
theorem s_107_13 {K : gC} : gOk K g_Ms mi_107 13 (ga_aload 0 14) := gs_aload_n (by decide +kernel : decode mi_107.2.1 13 = .ok (.aload_n 0, 1)) rfl rfl
theorem s_107_14 {K : gC} : gOk K g_Ms mi_107 14 (ga_getI 7 21 17) := gs_getI gcls_7 (by decide) (by decide) gw_677 (by decide +kernel : decode mi_107.2.1 14 = .ok (.getfield 166, 3)) rfl
theorem s_107_17 {K : gC} : gOk K g_Ms mi_107 17 (ga_iload 1 18) := gs_iload_n (by decide +kernel : decode mi_107.2.1 17 = .ok (.iload_n 1, 1)) rfl rfl
theorem s_107_18 {K : gC} : gOk K g_Ms mi_107 18 (ga_bin (fun x y => x + y) 19) := gs_iadd (by decide +kernel : decode mi_107.2.1 18 = .ok (.iadd, 1)) rfl
theorem s_107_19 {K : gC} : gOk K g_Ms mi_107 19 (ga_push (.int 99999) 21) := gs_ldc (by decide +kernel : decode mi_107.2.1 19 = .ok (.ldc 189, 2)) gw_854 rfl
theorem s_107_21 {K : gC} : gOk K g_Ms mi_107 21 (ga_cmp (fun x y => decide (x ≤ y)) 27 24) := gs_cmp_le (by decide +kernel : decode mi_107.2.1 21 = .ok (.if_icmp .le 6, 3)) (by decide) rfl
theorem s_107_24 {K : gC} : gOk K g_Ms mi_107 24 (ga_push (.int (-5)) 26) := gs_bipush (by decide +kernel : decode mi_107.2.1 24 = .ok (.bipush (-5), 2)) (by decide) rfl
theorem s_107_26 {K : gC} : gOk K g_Ms mi_107 26 (ga_iret) := gs_iret (by decide +kernel : decode mi_107.2.1 26 = .ok (.ireturn, 1)) rfl
theorem s_107_27 {K : gC} : gOk K g_Ms mi_107 27 (ga_push (.int 0) 28) := gs_iconst (by decide +kernel : decode mi_107.2.1 27 = .ok (.iconst 0, 1)) (by decide) rfl
theorem s_107_28 {K : gC} : gOk K g_Ms mi_107 28 (ga_istore 2 29) := gs_istore_n (by decide +kernel : decode mi_107.2.1 28 = .ok (.istore_n 2, 1)) rfl rfl
theorem s_107_29 {K : gC} : gOk K g_Ms mi_107 29 (ga_push (.int 0) 30) := gs_iconst (by decide +kernel : decode mi_107.2.1 29 = .ok (.iconst 0, 1)) (by decide) rfl
theorem s_107_30 {K : gC} : gOk K g_Ms mi_107 30 (ga_istore 3 31) := gs_istore_n (by decide +kernel : decode mi_107.2.1 30 = .ok (.istore_n 3, 1)) rfl rfl
theorem s_107_31 {K : gC} : gOk K g_Ms mi_107 31 (ga_iload 3 32) := gs_iload_n (by decide +kernel : decode mi_107.2.1 31 = .ok (.iload_n 3, 1)) rfl rfl
theorem s_107_32 {K : gC} : gOk K g_Ms mi_107 32 (ga_iload 1 33) := gs_iload_n (by decide +kernel : decode mi_107.2.1 32 = .ok (.iload_n 1, 1)) rfl rfl
theorem s_107_33 {K : gC} : gOk K g_Ms mi_107 33 (ga_cmp (fun x y => decide (y ≤ x)) 49 36) := gs_cmp_ge (by decide +kernel : decode mi_107.2.1 33 = .ok (.if_icmp .ge 16, 3)) (by decide) rfl
theorem s_107_36 {K : gC} : gOk K g_Ms mi_107 36 (ga_iload 2 37) := gs_iload_n (by decide +kernel : decode mi_107.2.1 36 = .ok (.iload_n 2, 1)) rfl rfl
theorem s_107_37 {K : gC} : gOk K g_Ms mi_107 37 (ga_aload 0 38) := gs_aload_n (by decide +kernel : decode mi_107.2.1 37 = .ok (.aload_n 0, 1)) rfl rfl
theorem s_107_38 {K : gC} : gOk K g_Ms mi_107 38 (ga_callV 7 106 0 41) := gs_callV gcls_7 (gce_X7_pass (by decide) (by decide)) gw_855 gw_857 gw_27 (by decide +kernel : decode mi_107.2.1 38 = .ok (.invokevirtual 190, 3)) rfl
theorem s_107_41 {K : gC} : gOk K g_Ms mi_107 41 (ga_bin (fun x y => x + y) 42) := gs_iadd (by decide +kernel : decode mi_107.2.1 41 = .ok (.iadd, 1)) rfl
theorem s_107_42 {K : gC} : gOk K g_Ms mi_107 42 (ga_istore 2 43) := gs_istore_n (by decide +kernel : decode mi_107.2.1 42 = .ok (.istore_n 2, 1)) rfl rfl
theorem s_107_43 {K : gC} : gOk K g_Ms mi_107 43 (ga_iinc 3 1 46) := gs_iinc (by decide +kernel : decode mi_107.2.1 43 = .ok (.iinc 3 1, 3)) (by decide) rfl
theorem s_107_46 {K : gC} : gOk K g_Ms mi_107 46 (ga_goto 31) := gs_goto (by decide +kernel : decode mi_107.2.1 46 = .ok (.goto (-15), 3)) (by decide)
theorem s_107_49 {K : gC} : gOk K g_Ms mi_107 49 (ga_iload 2 50) := gs_iload_n (by decide +kernel : decode mi_107.2.1 49 = .ok (.iload_n 2, 1)) rfl rfl
theorem s_107_50 {K : gC} : gOk K g_Ms mi_107 50 (ga_iret) := gs_iret (by decide +kernel : decode mi_107.2.1 50 = .ok (.ireturn, 1)) rfl
theorem ok_107 {K : gC} : ∀ e ∈ t_107, gOk K g_Ms mi_107 e.1 e.2 := by
  unfold t_107
  simp only [List.forall_mem_cons, List.not_mem_nil, false_implies, implies_true, and_true]
  exact ⟨s_107_0, s_107_1, s_107_2, s_107_4, s_107_7, s_107_10, s_107_12, s_107_13, s_107_14, s_107_17, s_107_18, s_107_19, s_107_21, s_107_24, s_107_26, s_107_27, s_107_28, s_107_29, s_107_30, s_107_31, s_107_32, s_107_33, s_107_36, s_107_37, s_107_38, s_107_41, s_107_42, s_107_43, s_107_46, s_107_49, s_107_50⟩
theorem s_108_0 {K : gC} : gOk K g_Ms mi_108 0 (ga_iload 1 1) := gs_iload_n (by decide +kernel : decode mi_108.2.1 0 = .ok (.iload_n 1, 1)) rfl rfl
theorem s_108_1 {K : gC} : gOk K g_Ms mi_108 1 (ga_push (.int 0) 2) := gs_iconst (by decide +kernel : decode mi_108.2.1 1 = .ok (.iconst 0, 1)) (by decide) rfl
theorem s_108_2 {K : gC} : gOk K g_Ms mi_108 2 (ga_push (.int 2) 3) := gs_iconst (by decide +kernel : decode mi_108.2.1 2 = .ok (.iconst 2, 1)) (by decide) rfl
theorem s_108_3 {K : gC} : gOk K g_Ms mi_108 3 (ga_call 83 3 6) := gs_callS (gce_X7_in (by decide) (by decide)) gw_751 gw_752 (by decide +kernel : decode mi_108.2.1 3 = .ok (.invokestatic 65, 3)) rfl
theorem s_108_6 {K : gC} : gOk K g_Ms mi_108 6 (ga_if (fun x => decide (¬ x = 0)) 12 9) := gs_if_ne (by decide +kernel : decode mi_108.2.1 6 = .ok (.ifCond .ne 6, 3)) (by decide) rfl
theorem s_108_9 {K : gC} : gOk K g_Ms mi_108 9 (ga_push (.int (-3)) 11) := gs_bipush (by decide +kernel : decode mi_108.2.1 9 = .ok (.bipush (-3), 2)) (by decide) rfl
theorem s_108_11 {K : gC} : gOk K g_Ms mi_108 11 (ga_iret) := gs_iret (by decide +kernel : decode mi_108.2.1 11 = .ok (.ireturn, 1)) rfl
theorem s_108_12 {K : gC} : gOk K g_Ms mi_108 12 (ga_aload 0 13) := gs_aload_n (by decide +kernel : decode mi_108.2.1 12 = .ok (.aload_n 0, 1)) rfl rfl
theorem s_108_13 {K : gC} : gOk K g_Ms mi_108 13 (ga_getI 7 5 16) := gs_getI gcls_7 (by decide) (by decide) gw_661 (by decide +kernel : decode mi_108.2.1 13 = .ok (.getfield 160, 3)) rfl
theorem s_108_16 {K : gC} : gOk K g_Ms mi_108 16 (ga_istore 2 17) := gs_istore_n (by decide +kernel : decode mi_108.2.1 16 = .ok (.istore_n 2, 1)) rfl rfl
theorem s_108_17 {K : gC} : gOk K g_Ms mi_108 17 (ga_aload 0 18) := gs_aload_n (by decide +kernel : decode mi_108.2.1 17 = .ok (.aload_n 0, 1)) rfl rfl
theorem s_108_18 {K : gC} : gOk K g_Ms mi_108 18 (ga_iload 1 19) := gs_iload_n (by decide +kernel : decode mi_108.2.1 18 = .ok (.iload_n 1, 1)) rfl rfl
theorem s_108_19 {K : gC} : gOk K g_Ms mi_108 19 (ga_putI 7 5 22) := gs_putI gcls_7 (by decide) (by decide) rfl rfl gw_661 (by decide +kernel : decode mi_108.2.1 19 = .ok (.putfield 160, 3)) rfl
theorem s_108_22 {K : gC} : gOk K g_Ms mi_108 22 (ga_iload 2 23) := gs_iload_n (by decide +kernel : decode mi_108.2.1 22 = .ok (.iload_n 2, 1)) rfl rfl
theorem s_108_23 {K : gC} : gOk K g_Ms mi_108 23 (ga_iret) := gs_iret (by decide +kernel : decode mi_108.2.1 23 = .ok (.ireturn, 1)) rfl
theorem ok_108 {K : gC} : ∀ e ∈ t_108, gOk K g_Ms mi_108 e.1 e.2 := by
  unfold t_108
  simp only [List.forall_mem_cons, List.not_mem_nil, false_implies, implies_true, and_true]
  exact ⟨s_108_0, s_108_1, s_108_2, s_108_3, s_108_6, s_108_9, s_108_11, s_108_12, s_108_13, s_108_16, s_108_17, s_108_18, s_108_19, s_108_22, s_108_23⟩
theorem s_109_0 {K : gC} : gOk K g_Ms mi_109 0 (ga_iload 1 1) := gs_iload_n (by decide +kernel : decode mi_109.2.1 0 = .ok (.iload_n 1, 1)) rfl rfl
theorem s_109_1 {K : gC} : gOk K g_Ms mi_109 1 (ga_push (.int 0) 2) := gs_iconst (by decide +kernel : decode mi_109.2.1 1 = .ok (.iconst 0, 1)) (by decide) rfl
theorem s_109_2 {K : gC} : gOk K g_Ms mi_109 2 (ga_push (.int 1) 3) := gs_iconst (by decide +kernel : decode mi_109.2.1 2 = .ok (.iconst 1, 1)) (by decide) rfl
theorem s_109_3 {K : gC} : gOk K g_Ms mi_109 3 (ga_call 83 3 6) := gs_callS (gce_X7_in (by decide) (by decide)) gw_751 gw_752 (by decide +kernel : decode mi_109.2.1 3 = .ok (.invokestatic 65, 3)) rfl
theorem s_109_6 {K : gC} : gOk K g_Ms mi_109 6 (ga_if (fun x => decide (¬ x = 0)) 12 9) := gs_if_ne (by decide +kernel : decode mi_109.2.1 6 = .ok (.ifCond .ne 6, 3)) (by decide) rfl
theorem s_109_9 {K : gC} : gOk K g_Ms mi_109 9 (ga_push (.int (-2)) 11) := gs_bipush (by decide +kernel : decode mi_109.2.1 9 = .ok (.bipush (-2), 2)) (by decide) rfl
theorem s_109_11 {K : gC} : gOk K g_Ms mi_109 11 (ga_iret) := gs_iret (by decide +kernel : decode mi_109.2.1 11 = .ok (.ireturn, 1)) rfl
theorem s_109_12 {K : gC} : gOk K g_Ms mi_109 12 (ga_push (.int 0) 13) := gs_iconst (by decide +kernel : decode mi_109.2.1 12 = .ok (.iconst 0, 1)) (by decide) rfl
theorem s_109_13 {K : gC} : gOk K g_Ms mi_109 13 (ga_istore 2 14) := gs_istore_n (by decide +kernel : decode mi_109.2.1 13 = .ok (.istore_n 2, 1)) rfl rfl
theorem s_109_14 {K : gC} : gOk K g_Ms mi_109 14 (ga_iload 2 15) := gs_iload_n (by decide +kernel : decode mi_109.2.1 14 = .ok (.iload_n 2, 1)) rfl rfl
theorem s_109_15 {K : gC} : gOk K g_Ms mi_109 15 (ga_push (.int 10) 17) := gs_bipush (by decide +kernel : decode mi_109.2.1 15 = .ok (.bipush 10, 2)) (by decide) rfl
theorem s_109_17 {K : gC} : gOk K g_Ms mi_109 17 (ga_cmp (fun x y => decide (y ≤ x)) 64 20) := gs_cmp_ge (by decide +kernel : decode mi_109.2.1 17 = .ok (.if_icmp .ge 47, 3)) (by decide) rfl
theorem s_109_20 {K : gC} : gOk K g_Ms mi_109 20 (ga_aload 0 21) := gs_aload_n (by decide +kernel : decode mi_109.2.1 20 = .ok (.aload_n 0, 1)) rfl rfl
theorem s_109_21 {K : gC} : gOk K g_Ms mi_109 21 (ga_getR 7 22 24) := gs_getR gcls_7 (by decide) (by decide) gw_678 (by decide +kernel : decode mi_109.2.1 21 = .ok (.getfield 39, 3)) rfl
theorem s_109_24 {K : gC} : gOk K g_Ms mi_109 24 (ga_push (.int 23) 26) := gs_bipush (by decide +kernel : decode mi_109.2.1 24 = .ok (.bipush 23, 2)) (by decide) rfl
theorem s_109_26 {K : gC} : gOk K g_Ms mi_109 26 (ga_iload 1 27) := gs_iload_n (by decide +kernel : decode mi_109.2.1 26 = .ok (.iload_n 1, 1)) rfl rfl
theorem s_109_27 {K : gC} : gOk K g_Ms mi_109 27 (ga_bin (fun x y => x * y) 28) := gs_imul (by decide +kernel : decode mi_109.2.1 27 = .ok (.imul, 1)) rfl
theorem s_109_28 {K : gC} : gOk K g_Ms mi_109 28 (ga_iload 2 29) := gs_iload_n (by decide +kernel : decode mi_109.2.1 28 = .ok (.iload_n 2, 1)) rfl rfl
theorem s_109_29 {K : gC} : gOk K g_Ms mi_109 29 (ga_bin (fun x y => x + y) 30) := gs_iadd (by decide +kernel : decode mi_109.2.1 29 = .ok (.iadd, 1)) rfl
theorem s_109_30 {K : gC} : gOk K g_Ms mi_109 30 (ga_aload 0 31) := gs_aload_n (by decide +kernel : decode mi_109.2.1 30 = .ok (.aload_n 0, 1)) rfl rfl
theorem s_109_31 {K : gC} : gOk K g_Ms mi_109 31 (ga_getR 7 18 34) := gs_getR gcls_7 (by decide) (by decide) gw_674 (by decide +kernel : decode mi_109.2.1 31 = .ok (.getfield 32, 3)) rfl
theorem s_109_34 {K : gC} : gOk K g_Ms mi_109 34 (ga_iload 2 35) := gs_iload_n (by decide +kernel : decode mi_109.2.1 34 = .ok (.iload_n 2, 1)) rfl rfl
theorem s_109_35 {K : gC} : gOk K g_Ms mi_109 35 (ga_lald 36) := gs_lald (by decide +kernel : decode mi_109.2.1 35 = .ok (.laload, 1)) rfl
theorem s_109_36 {K : gC} : gOk K g_Ms mi_109 36 (ga_last 37) := gs_last (by decide +kernel : decode mi_109.2.1 36 = .ok (.lastore, 1)) rfl
theorem s_109_37 {K : gC} : gOk K g_Ms mi_109 37 (ga_aload 0 38) := gs_aload_n (by decide +kernel : decode mi_109.2.1 37 = .ok (.aload_n 0, 1)) rfl rfl
theorem s_109_38 {K : gC} : gOk K g_Ms mi_109 38 (ga_getR 7 22 41) := gs_getR gcls_7 (by decide) (by decide) gw_678 (by decide +kernel : decode mi_109.2.1 38 = .ok (.getfield 39, 3)) rfl
theorem s_109_41 {K : gC} : gOk K g_Ms mi_109 41 (ga_push (.int 23) 43) := gs_bipush (by decide +kernel : decode mi_109.2.1 41 = .ok (.bipush 23, 2)) (by decide) rfl
theorem s_109_43 {K : gC} : gOk K g_Ms mi_109 43 (ga_iload 1 44) := gs_iload_n (by decide +kernel : decode mi_109.2.1 43 = .ok (.iload_n 1, 1)) rfl rfl
theorem s_109_44 {K : gC} : gOk K g_Ms mi_109 44 (ga_bin (fun x y => x * y) 45) := gs_imul (by decide +kernel : decode mi_109.2.1 44 = .ok (.imul, 1)) rfl
theorem s_109_45 {K : gC} : gOk K g_Ms mi_109 45 (ga_push (.int 10) 47) := gs_bipush (by decide +kernel : decode mi_109.2.1 45 = .ok (.bipush 10, 2)) (by decide) rfl
theorem s_109_47 {K : gC} : gOk K g_Ms mi_109 47 (ga_bin (fun x y => x + y) 48) := gs_iadd (by decide +kernel : decode mi_109.2.1 47 = .ok (.iadd, 1)) rfl
theorem s_109_48 {K : gC} : gOk K g_Ms mi_109 48 (ga_iload 2 49) := gs_iload_n (by decide +kernel : decode mi_109.2.1 48 = .ok (.iload_n 2, 1)) rfl rfl
theorem s_109_49 {K : gC} : gOk K g_Ms mi_109 49 (ga_bin (fun x y => x + y) 50) := gs_iadd (by decide +kernel : decode mi_109.2.1 49 = .ok (.iadd, 1)) rfl
theorem s_109_50 {K : gC} : gOk K g_Ms mi_109 50 (ga_aload 0 51) := gs_aload_n (by decide +kernel : decode mi_109.2.1 50 = .ok (.aload_n 0, 1)) rfl rfl
theorem s_109_51 {K : gC} : gOk K g_Ms mi_109 51 (ga_getR 7 19 54) := gs_getR gcls_7 (by decide) (by decide) gw_675 (by decide +kernel : decode mi_109.2.1 51 = .ok (.getfield 36, 3)) rfl
theorem s_109_54 {K : gC} : gOk K g_Ms mi_109 54 (ga_iload 2 55) := gs_iload_n (by decide +kernel : decode mi_109.2.1 54 = .ok (.iload_n 2, 1)) rfl rfl
theorem s_109_55 {K : gC} : gOk K g_Ms mi_109 55 (ga_iald 56) := gs_iald (by decide +kernel : decode mi_109.2.1 55 = .ok (.iaload, 1)) rfl
theorem s_109_56 {K : gC} : gOk K g_Ms mi_109 56 (ga_i2l 57) := gs_i2l (by decide +kernel : decode mi_109.2.1 56 = .ok (.i2l, 1)) rfl
theorem s_109_57 {K : gC} : gOk K g_Ms mi_109 57 (ga_last 58) := gs_last (by decide +kernel : decode mi_109.2.1 57 = .ok (.lastore, 1)) rfl
theorem s_109_58 {K : gC} : gOk K g_Ms mi_109 58 (ga_iinc 2 1 61) := gs_iinc (by decide +kernel : decode mi_109.2.1 58 = .ok (.iinc 2 1, 3)) (by decide) rfl
theorem s_109_61 {K : gC} : gOk K g_Ms mi_109 61 (ga_goto 14) := gs_goto (by decide +kernel : decode mi_109.2.1 61 = .ok (.goto (-47), 3)) (by decide)
theorem s_109_64 {K : gC} : gOk K g_Ms mi_109 64 (ga_aload 0 65) := gs_aload_n (by decide +kernel : decode mi_109.2.1 64 = .ok (.aload_n 0, 1)) rfl rfl
theorem s_109_65 {K : gC} : gOk K g_Ms mi_109 65 (ga_getR 7 22 68) := gs_getR gcls_7 (by decide) (by decide) gw_678 (by decide +kernel : decode mi_109.2.1 65 = .ok (.getfield 39, 3)) rfl
theorem s_109_68 {K : gC} : gOk K g_Ms mi_109 68 (ga_push (.int 23) 70) := gs_bipush (by decide +kernel : decode mi_109.2.1 68 = .ok (.bipush 23, 2)) (by decide) rfl
theorem s_109_70 {K : gC} : gOk K g_Ms mi_109 70 (ga_iload 1 71) := gs_iload_n (by decide +kernel : decode mi_109.2.1 70 = .ok (.iload_n 1, 1)) rfl rfl
theorem s_109_71 {K : gC} : gOk K g_Ms mi_109 71 (ga_bin (fun x y => x * y) 72) := gs_imul (by decide +kernel : decode mi_109.2.1 71 = .ok (.imul, 1)) rfl
theorem s_109_72 {K : gC} : gOk K g_Ms mi_109 72 (ga_push (.int 20) 74) := gs_bipush (by decide +kernel : decode mi_109.2.1 72 = .ok (.bipush 20, 2)) (by decide) rfl
theorem s_109_74 {K : gC} : gOk K g_Ms mi_109 74 (ga_bin (fun x y => x + y) 75) := gs_iadd (by decide +kernel : decode mi_109.2.1 74 = .ok (.iadd, 1)) rfl
theorem s_109_75 {K : gC} : gOk K g_Ms mi_109 75 (ga_aload 0 76) := gs_aload_n (by decide +kernel : decode mi_109.2.1 75 = .ok (.aload_n 0, 1)) rfl rfl
theorem s_109_76 {K : gC} : gOk K g_Ms mi_109 76 (ga_getI 7 20 79) := gs_getI gcls_7 (by decide) (by decide) gw_676 (by decide +kernel : decode mi_109.2.1 76 = .ok (.getfield 163, 3)) rfl
theorem s_109_79 {K : gC} : gOk K g_Ms mi_109 79 (ga_i2l 80) := gs_i2l (by decide +kernel : decode mi_109.2.1 79 = .ok (.i2l, 1)) rfl
theorem s_109_80 {K : gC} : gOk K g_Ms mi_109 80 (ga_last 81) := gs_last (by decide +kernel : decode mi_109.2.1 80 = .ok (.lastore, 1)) rfl
theorem s_109_81 {K : gC} : gOk K g_Ms mi_109 81 (ga_aload 0 82) := gs_aload_n (by decide +kernel : decode mi_109.2.1 81 = .ok (.aload_n 0, 1)) rfl rfl
theorem s_109_82 {K : gC} : gOk K g_Ms mi_109 82 (ga_getR 7 22 85) := gs_getR gcls_7 (by decide) (by decide) gw_678 (by decide +kernel : decode mi_109.2.1 82 = .ok (.getfield 39, 3)) rfl
theorem s_109_85 {K : gC} : gOk K g_Ms mi_109 85 (ga_push (.int 23) 87) := gs_bipush (by decide +kernel : decode mi_109.2.1 85 = .ok (.bipush 23, 2)) (by decide) rfl
theorem s_109_87 {K : gC} : gOk K g_Ms mi_109 87 (ga_iload 1 88) := gs_iload_n (by decide +kernel : decode mi_109.2.1 87 = .ok (.iload_n 1, 1)) rfl rfl
theorem s_109_88 {K : gC} : gOk K g_Ms mi_109 88 (ga_bin (fun x y => x * y) 89) := gs_imul (by decide +kernel : decode mi_109.2.1 88 = .ok (.imul, 1)) rfl
theorem s_109_89 {K : gC} : gOk K g_Ms mi_109 89 (ga_push (.int 21) 91) := gs_bipush (by decide +kernel : decode mi_109.2.1 89 = .ok (.bipush 21, 2)) (by decide) rfl
theorem s_109_91 {K : gC} : gOk K g_Ms mi_109 91 (ga_bin (fun x y => x + y) 92) := gs_iadd (by decide +kernel : decode mi_109.2.1 91 = .ok (.iadd, 1)) rfl
theorem s_109_92 {K : gC} : gOk K g_Ms mi_109 92 (ga_aload 0 93) := gs_aload_n (by decide +kernel : decode mi_109.2.1 92 = .ok (.aload_n 0, 1)) rfl rfl
theorem s_109_93 {K : gC} : gOk K g_Ms mi_109 93 (ga_getI 7 21 96) := gs_getI gcls_7 (by decide) (by decide) gw_677 (by decide +kernel : decode mi_109.2.1 93 = .ok (.getfield 166, 3)) rfl
theorem s_109_96 {K : gC} : gOk K g_Ms mi_109 96 (ga_i2l 97) := gs_i2l (by decide +kernel : decode mi_109.2.1 96 = .ok (.i2l, 1)) rfl
theorem s_109_97 {K : gC} : gOk K g_Ms mi_109 97 (ga_last 98) := gs_last (by decide +kernel : decode mi_109.2.1 97 = .ok (.lastore, 1)) rfl
theorem s_109_98 {K : gC} : gOk K g_Ms mi_109 98 (ga_aload 0 99) := gs_aload_n (by decide +kernel : decode mi_109.2.1 98 = .ok (.aload_n 0, 1)) rfl rfl
theorem s_109_99 {K : gC} : gOk K g_Ms mi_109 99 (ga_getR 7 22 102) := gs_getR gcls_7 (by decide) (by decide) gw_678 (by decide +kernel : decode mi_109.2.1 99 = .ok (.getfield 39, 3)) rfl
theorem s_109_102 {K : gC} : gOk K g_Ms mi_109 102 (ga_push (.int 23) 104) := gs_bipush (by decide +kernel : decode mi_109.2.1 102 = .ok (.bipush 23, 2)) (by decide) rfl
theorem s_109_104 {K : gC} : gOk K g_Ms mi_109 104 (ga_iload 1 105) := gs_iload_n (by decide +kernel : decode mi_109.2.1 104 = .ok (.iload_n 1, 1)) rfl rfl
theorem s_109_105 {K : gC} : gOk K g_Ms mi_109 105 (ga_bin (fun x y => x * y) 106) := gs_imul (by decide +kernel : decode mi_109.2.1 105 = .ok (.imul, 1)) rfl
theorem s_109_106 {K : gC} : gOk K g_Ms mi_109 106 (ga_push (.int 22) 108) := gs_bipush (by decide +kernel : decode mi_109.2.1 106 = .ok (.bipush 22, 2)) (by decide) rfl
theorem s_109_108 {K : gC} : gOk K g_Ms mi_109 108 (ga_bin (fun x y => x + y) 109) := gs_iadd (by decide +kernel : decode mi_109.2.1 108 = .ok (.iadd, 1)) rfl
theorem s_109_109 {K : gC} : gOk K g_Ms mi_109 109 (ga_aload 0 110) := gs_aload_n (by decide +kernel : decode mi_109.2.1 109 = .ok (.aload_n 0, 1)) rfl rfl
theorem s_109_110 {K : gC} : gOk K g_Ms mi_109 110 (ga_getI 7 5 113) := gs_getI gcls_7 (by decide) (by decide) gw_661 (by decide +kernel : decode mi_109.2.1 110 = .ok (.getfield 160, 3)) rfl
theorem s_109_113 {K : gC} : gOk K g_Ms mi_109 113 (ga_i2l 114) := gs_i2l (by decide +kernel : decode mi_109.2.1 113 = .ok (.i2l, 1)) rfl
theorem s_109_114 {K : gC} : gOk K g_Ms mi_109 114 (ga_last 115) := gs_last (by decide +kernel : decode mi_109.2.1 114 = .ok (.lastore, 1)) rfl
theorem s_109_115 {K : gC} : gOk K g_Ms mi_109 115 (ga_aload 0 116) := gs_aload_n (by decide +kernel : decode mi_109.2.1 115 = .ok (.aload_n 0, 1)) rfl rfl
theorem s_109_116 {K : gC} : gOk K g_Ms mi_109 116 (ga_getR 7 23 119) := gs_getR gcls_7 (by decide) (by decide) gw_679 (by decide +kernel : decode mi_109.2.1 116 = .ok (.getfield 42, 3)) rfl
theorem s_109_119 {K : gC} : gOk K g_Ms mi_109 119 (ga_iload 1 120) := gs_iload_n (by decide +kernel : decode mi_109.2.1 119 = .ok (.iload_n 1, 1)) rfl rfl
theorem s_109_120 {K : gC} : gOk K g_Ms mi_109 120 (ga_push (.int 1) 121) := gs_iconst (by decide +kernel : decode mi_109.2.1 120 = .ok (.iconst 1, 1)) (by decide) rfl
theorem s_109_121 {K : gC} : gOk K g_Ms mi_109 121 (ga_bast 122) := gs_zast (by decide +kernel : decode mi_109.2.1 121 = .ok (.bastore, 1)) rfl
theorem s_109_122 {K : gC} : gOk K g_Ms mi_109 122 (ga_aload 0 123) := gs_aload_n (by decide +kernel : decode mi_109.2.1 122 = .ok (.aload_n 0, 1)) rfl rfl
theorem s_109_123 {K : gC} : gOk K g_Ms mi_109 123 (ga_getI 7 21 126) := gs_getI gcls_7 (by decide) (by decide) gw_677 (by decide +kernel : decode mi_109.2.1 123 = .ok (.getfield 166, 3)) rfl
theorem s_109_126 {K : gC} : gOk K g_Ms mi_109 126 (ga_iret) := gs_iret (by decide +kernel : decode mi_109.2.1 126 = .ok (.ireturn, 1)) rfl
theorem ok_109 {K : gC} : ∀ e ∈ t_109, gOk K g_Ms mi_109 e.1 e.2 := by
  unfold t_109
  simp only [List.forall_mem_cons, List.not_mem_nil, false_implies, implies_true, and_true]
  exact ⟨s_109_0, s_109_1, s_109_2, s_109_3, s_109_6, s_109_9, s_109_11, s_109_12, s_109_13, s_109_14, s_109_15, s_109_17, s_109_20, s_109_21, s_109_24, s_109_26, s_109_27, s_109_28, s_109_29, s_109_30, s_109_31, s_109_34, s_109_35, s_109_36, s_109_37, s_109_38, s_109_41, s_109_43, s_109_44, s_109_45, s_109_47, s_109_48, s_109_49, s_109_50, s_109_51, s_109_54, s_109_55, s_109_56, s_109_57, s_109_58, s_109_61, s_109_64, s_109_65, s_109_68, s_109_70, s_109_71, s_109_72, s_109_74, s_109_75, s_109_76, s_109_79, s_109_80, s_109_81, s_109_82, s_109_85, s_109_87, s_109_88, s_109_89, s_109_91, s_109_92, s_109_93, s_109_96, s_109_97, s_109_98, s_109_99, s_109_102, s_109_104, s_109_105, s_109_106, s_109_108, s_109_109, s_109_110, s_109_113, s_109_114, s_109_115, s_109_116, s_109_119, s_109_120, s_109_121, s_109_122, s_109_123, s_109_126⟩
theorem s_110_0 {K : gC} : gOk K g_Ms mi_110 0 (ga_iload 1 1) := gs_iload_n (by decide +kernel : decode mi_110.2.1 0 = .ok (.iload_n 1, 1)) rfl rfl
theorem s_110_1 {K : gC} : gOk K g_Ms mi_110 1 (ga_push (.int 0) 2) := gs_iconst (by decide +kernel : decode mi_110.2.1 1 = .ok (.iconst 0, 1)) (by decide) rfl
theorem s_110_2 {K : gC} : gOk K g_Ms mi_110 2 (ga_push (.int 1) 3) := gs_iconst (by decide +kernel : decode mi_110.2.1 2 = .ok (.iconst 1, 1)) (by decide) rfl
theorem s_110_3 {K : gC} : gOk K g_Ms mi_110 3 (ga_call 83 3 6) := gs_callS (gce_X7_in (by decide) (by decide)) gw_751 gw_752 (by decide +kernel : decode mi_110.2.1 3 = .ok (.invokestatic 65, 3)) rfl
theorem s_110_6 {K : gC} : gOk K g_Ms mi_110 6 (ga_if (fun x => decide (¬ x = 0)) 12 9) := gs_if_ne (by decide +kernel : decode mi_110.2.1 6 = .ok (.ifCond .ne 6, 3)) (by decide) rfl
theorem s_110_9 {K : gC} : gOk K g_Ms mi_110 9 (ga_push (.int (-2)) 11) := gs_bipush (by decide +kernel : decode mi_110.2.1 9 = .ok (.bipush (-2), 2)) (by decide) rfl
theorem s_110_11 {K : gC} : gOk K g_Ms mi_110 11 (ga_iret) := gs_iret (by decide +kernel : decode mi_110.2.1 11 = .ok (.ireturn, 1)) rfl
theorem s_110_12 {K : gC} : gOk K g_Ms mi_110 12 (ga_aload 0 13) := gs_aload_n (by decide +kernel : decode mi_110.2.1 12 = .ok (.aload_n 0, 1)) rfl rfl
theorem s_110_13 {K : gC} : gOk K g_Ms mi_110 13 (ga_getR 7 23 16) := gs_getR gcls_7 (by decide) (by decide) gw_679 (by decide +kernel : decode mi_110.2.1 13 = .ok (.getfield 42, 3)) rfl
theorem s_110_16 {K : gC} : gOk K g_Ms mi_110 16 (ga_iload 1 17) := gs_iload_n (by decide +kernel : decode mi_110.2.1 16 = .ok (.iload_n 1, 1)) rfl rfl
theorem s_110_17 {K : gC} : gOk K g_Ms mi_110 17 (ga_bald 18) := gs_zald (by decide +kernel : decode mi_110.2.1 17 = .ok (.baload, 1)) rfl
theorem s_110_18 {K : gC} : gOk K g_Ms mi_110 18 (ga_if (fun x => decide (¬ x = 0)) 24 21) := gs_if_ne (by decide +kernel : decode mi_110.2.1 18 = .ok (.ifCond .ne 6, 3)) (by decide) rfl
theorem s_110_21 {K : gC} : gOk K g_Ms mi_110 21 (ga_push (.int (-4)) 23) := gs_bipush (by decide +kernel : decode mi_110.2.1 21 = .ok (.bipush (-4), 2)) (by decide) rfl
theorem s_110_23 {K : gC} : gOk K g_Ms mi_110 23 (ga_iret) := gs_iret (by decide +kernel : decode mi_110.2.1 23 = .ok (.ireturn, 1)) rfl
theorem s_110_24 {K : gC} : gOk K g_Ms mi_110 24 (ga_push (.int 0) 25) := gs_iconst (by decide +kernel : decode mi_110.2.1 24 = .ok (.iconst 0, 1)) (by decide) rfl
theorem s_110_25 {K : gC} : gOk K g_Ms mi_110 25 (ga_istore 2 26) := gs_istore_n (by decide +kernel : decode mi_110.2.1 25 = .ok (.istore_n 2, 1)) rfl rfl
theorem s_110_26 {K : gC} : gOk K g_Ms mi_110 26 (ga_iload 2 27) := gs_iload_n (by decide +kernel : decode mi_110.2.1 26 = .ok (.iload_n 2, 1)) rfl rfl
theorem s_110_27 {K : gC} : gOk K g_Ms mi_110 27 (ga_push (.int 10) 29) := gs_bipush (by decide +kernel : decode mi_110.2.1 27 = .ok (.bipush 10, 2)) (by decide) rfl
theorem s_110_29 {K : gC} : gOk K g_Ms mi_110 29 (ga_cmp (fun x y => decide (y ≤ x)) 76 32) := gs_cmp_ge (by decide +kernel : decode mi_110.2.1 29 = .ok (.if_icmp .ge 47, 3)) (by decide) rfl
theorem s_110_32 {K : gC} : gOk K g_Ms mi_110 32 (ga_aload 0 33) := gs_aload_n (by decide +kernel : decode mi_110.2.1 32 = .ok (.aload_n 0, 1)) rfl rfl
theorem s_110_33 {K : gC} : gOk K g_Ms mi_110 33 (ga_getR 7 18 36) := gs_getR gcls_7 (by decide) (by decide) gw_674 (by decide +kernel : decode mi_110.2.1 33 = .ok (.getfield 32, 3)) rfl
theorem s_110_36 {K : gC} : gOk K g_Ms mi_110 36 (ga_iload 2 37) := gs_iload_n (by decide +kernel : decode mi_110.2.1 36 = .ok (.iload_n 2, 1)) rfl rfl
theorem s_110_37 {K : gC} : gOk K g_Ms mi_110 37 (ga_aload 0 38) := gs_aload_n (by decide +kernel : decode mi_110.2.1 37 = .ok (.aload_n 0, 1)) rfl rfl
theorem s_110_38 {K : gC} : gOk K g_Ms mi_110 38 (ga_getR 7 22 41) := gs_getR gcls_7 (by decide) (by decide) gw_678 (by decide +kernel : decode mi_110.2.1 38 = .ok (.getfield 39, 3)) rfl
theorem s_110_41 {K : gC} : gOk K g_Ms mi_110 41 (ga_push (.int 23) 43) := gs_bipush (by decide +kernel : decode mi_110.2.1 41 = .ok (.bipush 23, 2)) (by decide) rfl
theorem s_110_43 {K : gC} : gOk K g_Ms mi_110 43 (ga_iload 1 44) := gs_iload_n (by decide +kernel : decode mi_110.2.1 43 = .ok (.iload_n 1, 1)) rfl rfl
theorem s_110_44 {K : gC} : gOk K g_Ms mi_110 44 (ga_bin (fun x y => x * y) 45) := gs_imul (by decide +kernel : decode mi_110.2.1 44 = .ok (.imul, 1)) rfl
theorem s_110_45 {K : gC} : gOk K g_Ms mi_110 45 (ga_iload 2 46) := gs_iload_n (by decide +kernel : decode mi_110.2.1 45 = .ok (.iload_n 2, 1)) rfl rfl
theorem s_110_46 {K : gC} : gOk K g_Ms mi_110 46 (ga_bin (fun x y => x + y) 47) := gs_iadd (by decide +kernel : decode mi_110.2.1 46 = .ok (.iadd, 1)) rfl
theorem s_110_47 {K : gC} : gOk K g_Ms mi_110 47 (ga_lald 48) := gs_lald (by decide +kernel : decode mi_110.2.1 47 = .ok (.laload, 1)) rfl
theorem s_110_48 {K : gC} : gOk K g_Ms mi_110 48 (ga_last 49) := gs_last (by decide +kernel : decode mi_110.2.1 48 = .ok (.lastore, 1)) rfl
theorem s_110_49 {K : gC} : gOk K g_Ms mi_110 49 (ga_aload 0 50) := gs_aload_n (by decide +kernel : decode mi_110.2.1 49 = .ok (.aload_n 0, 1)) rfl rfl
theorem s_110_50 {K : gC} : gOk K g_Ms mi_110 50 (ga_getR 7 19 53) := gs_getR gcls_7 (by decide) (by decide) gw_675 (by decide +kernel : decode mi_110.2.1 50 = .ok (.getfield 36, 3)) rfl
theorem s_110_53 {K : gC} : gOk K g_Ms mi_110 53 (ga_iload 2 54) := gs_iload_n (by decide +kernel : decode mi_110.2.1 53 = .ok (.iload_n 2, 1)) rfl rfl
theorem s_110_54 {K : gC} : gOk K g_Ms mi_110 54 (ga_aload 0 55) := gs_aload_n (by decide +kernel : decode mi_110.2.1 54 = .ok (.aload_n 0, 1)) rfl rfl
theorem s_110_55 {K : gC} : gOk K g_Ms mi_110 55 (ga_getR 7 22 58) := gs_getR gcls_7 (by decide) (by decide) gw_678 (by decide +kernel : decode mi_110.2.1 55 = .ok (.getfield 39, 3)) rfl
theorem s_110_58 {K : gC} : gOk K g_Ms mi_110 58 (ga_push (.int 23) 60) := gs_bipush (by decide +kernel : decode mi_110.2.1 58 = .ok (.bipush 23, 2)) (by decide) rfl
theorem s_110_60 {K : gC} : gOk K g_Ms mi_110 60 (ga_iload 1 61) := gs_iload_n (by decide +kernel : decode mi_110.2.1 60 = .ok (.iload_n 1, 1)) rfl rfl
theorem s_110_61 {K : gC} : gOk K g_Ms mi_110 61 (ga_bin (fun x y => x * y) 62) := gs_imul (by decide +kernel : decode mi_110.2.1 61 = .ok (.imul, 1)) rfl
theorem s_110_62 {K : gC} : gOk K g_Ms mi_110 62 (ga_push (.int 10) 64) := gs_bipush (by decide +kernel : decode mi_110.2.1 62 = .ok (.bipush 10, 2)) (by decide) rfl
theorem s_110_64 {K : gC} : gOk K g_Ms mi_110 64 (ga_bin (fun x y => x + y) 65) := gs_iadd (by decide +kernel : decode mi_110.2.1 64 = .ok (.iadd, 1)) rfl
theorem s_110_65 {K : gC} : gOk K g_Ms mi_110 65 (ga_iload 2 66) := gs_iload_n (by decide +kernel : decode mi_110.2.1 65 = .ok (.iload_n 2, 1)) rfl rfl
theorem s_110_66 {K : gC} : gOk K g_Ms mi_110 66 (ga_bin (fun x y => x + y) 67) := gs_iadd (by decide +kernel : decode mi_110.2.1 66 = .ok (.iadd, 1)) rfl
theorem s_110_67 {K : gC} : gOk K g_Ms mi_110 67 (ga_lald 68) := gs_lald (by decide +kernel : decode mi_110.2.1 67 = .ok (.laload, 1)) rfl
theorem s_110_68 {K : gC} : gOk K g_Ms mi_110 68 (ga_l2i 69) := gs_l2i (by decide +kernel : decode mi_110.2.1 68 = .ok (.l2i, 1)) rfl
theorem s_110_69 {K : gC} : gOk K g_Ms mi_110 69 (ga_iast 70) := gs_iast (by decide +kernel : decode mi_110.2.1 69 = .ok (.iastore, 1)) rfl
theorem s_110_70 {K : gC} : gOk K g_Ms mi_110 70 (ga_iinc 2 1 73) := gs_iinc (by decide +kernel : decode mi_110.2.1 70 = .ok (.iinc 2 1, 3)) (by decide) rfl
theorem s_110_73 {K : gC} : gOk K g_Ms mi_110 73 (ga_goto 26) := gs_goto (by decide +kernel : decode mi_110.2.1 73 = .ok (.goto (-47), 3)) (by decide)
theorem s_110_76 {K : gC} : gOk K g_Ms mi_110 76 (ga_aload 0 77) := gs_aload_n (by decide +kernel : decode mi_110.2.1 76 = .ok (.aload_n 0, 1)) rfl rfl
theorem s_110_77 {K : gC} : gOk K g_Ms mi_110 77 (ga_aload 0 78) := gs_aload_n (by decide +kernel : decode mi_110.2.1 77 = .ok (.aload_n 0, 1)) rfl rfl
theorem s_110_78 {K : gC} : gOk K g_Ms mi_110 78 (ga_getR 7 22 81) := gs_getR gcls_7 (by decide) (by decide) gw_678 (by decide +kernel : decode mi_110.2.1 78 = .ok (.getfield 39, 3)) rfl
theorem s_110_81 {K : gC} : gOk K g_Ms mi_110 81 (ga_push (.int 23) 83) := gs_bipush (by decide +kernel : decode mi_110.2.1 81 = .ok (.bipush 23, 2)) (by decide) rfl
theorem s_110_83 {K : gC} : gOk K g_Ms mi_110 83 (ga_iload 1 84) := gs_iload_n (by decide +kernel : decode mi_110.2.1 83 = .ok (.iload_n 1, 1)) rfl rfl
theorem s_110_84 {K : gC} : gOk K g_Ms mi_110 84 (ga_bin (fun x y => x * y) 85) := gs_imul (by decide +kernel : decode mi_110.2.1 84 = .ok (.imul, 1)) rfl
theorem s_110_85 {K : gC} : gOk K g_Ms mi_110 85 (ga_push (.int 20) 87) := gs_bipush (by decide +kernel : decode mi_110.2.1 85 = .ok (.bipush 20, 2)) (by decide) rfl
theorem s_110_87 {K : gC} : gOk K g_Ms mi_110 87 (ga_bin (fun x y => x + y) 88) := gs_iadd (by decide +kernel : decode mi_110.2.1 87 = .ok (.iadd, 1)) rfl
theorem s_110_88 {K : gC} : gOk K g_Ms mi_110 88 (ga_lald 89) := gs_lald (by decide +kernel : decode mi_110.2.1 88 = .ok (.laload, 1)) rfl
theorem s_110_89 {K : gC} : gOk K g_Ms mi_110 89 (ga_l2i 90) := gs_l2i (by decide +kernel : decode mi_110.2.1 89 = .ok (.l2i, 1)) rfl
theorem s_110_90 {K : gC} : gOk K g_Ms mi_110 90 (ga_putI 7 20 93) := gs_putI gcls_7 (by decide) (by decide) rfl rfl gw_676 (by decide +kernel : decode mi_110.2.1 90 = .ok (.putfield 163, 3)) rfl
theorem s_110_93 {K : gC} : gOk K g_Ms mi_110 93 (ga_aload 0 94) := gs_aload_n (by decide +kernel : decode mi_110.2.1 93 = .ok (.aload_n 0, 1)) rfl rfl
theorem s_110_94 {K : gC} : gOk K g_Ms mi_110 94 (ga_aload 0 95) := gs_aload_n (by decide +kernel : decode mi_110.2.1 94 = .ok (.aload_n 0, 1)) rfl rfl
theorem s_110_95 {K : gC} : gOk K g_Ms mi_110 95 (ga_getR 7 22 98) := gs_getR gcls_7 (by decide) (by decide) gw_678 (by decide +kernel : decode mi_110.2.1 95 = .ok (.getfield 39, 3)) rfl
theorem s_110_98 {K : gC} : gOk K g_Ms mi_110 98 (ga_push (.int 23) 100) := gs_bipush (by decide +kernel : decode mi_110.2.1 98 = .ok (.bipush 23, 2)) (by decide) rfl
theorem s_110_100 {K : gC} : gOk K g_Ms mi_110 100 (ga_iload 1 101) := gs_iload_n (by decide +kernel : decode mi_110.2.1 100 = .ok (.iload_n 1, 1)) rfl rfl
theorem s_110_101 {K : gC} : gOk K g_Ms mi_110 101 (ga_bin (fun x y => x * y) 102) := gs_imul (by decide +kernel : decode mi_110.2.1 101 = .ok (.imul, 1)) rfl
theorem s_110_102 {K : gC} : gOk K g_Ms mi_110 102 (ga_push (.int 21) 104) := gs_bipush (by decide +kernel : decode mi_110.2.1 102 = .ok (.bipush 21, 2)) (by decide) rfl
theorem s_110_104 {K : gC} : gOk K g_Ms mi_110 104 (ga_bin (fun x y => x + y) 105) := gs_iadd (by decide +kernel : decode mi_110.2.1 104 = .ok (.iadd, 1)) rfl
theorem s_110_105 {K : gC} : gOk K g_Ms mi_110 105 (ga_lald 106) := gs_lald (by decide +kernel : decode mi_110.2.1 105 = .ok (.laload, 1)) rfl
theorem s_110_106 {K : gC} : gOk K g_Ms mi_110 106 (ga_l2i 107) := gs_l2i (by decide +kernel : decode mi_110.2.1 106 = .ok (.l2i, 1)) rfl
theorem s_110_107 {K : gC} : gOk K g_Ms mi_110 107 (ga_putI 7 21 110) := gs_putI gcls_7 (by decide) (by decide) rfl rfl gw_677 (by decide +kernel : decode mi_110.2.1 107 = .ok (.putfield 166, 3)) rfl
theorem s_110_110 {K : gC} : gOk K g_Ms mi_110 110 (ga_aload 0 111) := gs_aload_n (by decide +kernel : decode mi_110.2.1 110 = .ok (.aload_n 0, 1)) rfl rfl
theorem s_110_111 {K : gC} : gOk K g_Ms mi_110 111 (ga_aload 0 112) := gs_aload_n (by decide +kernel : decode mi_110.2.1 111 = .ok (.aload_n 0, 1)) rfl rfl
theorem s_110_112 {K : gC} : gOk K g_Ms mi_110 112 (ga_getR 7 22 115) := gs_getR gcls_7 (by decide) (by decide) gw_678 (by decide +kernel : decode mi_110.2.1 112 = .ok (.getfield 39, 3)) rfl
theorem s_110_115 {K : gC} : gOk K g_Ms mi_110 115 (ga_push (.int 23) 117) := gs_bipush (by decide +kernel : decode mi_110.2.1 115 = .ok (.bipush 23, 2)) (by decide) rfl
theorem s_110_117 {K : gC} : gOk K g_Ms mi_110 117 (ga_iload 1 118) := gs_iload_n (by decide +kernel : decode mi_110.2.1 117 = .ok (.iload_n 1, 1)) rfl rfl
theorem s_110_118 {K : gC} : gOk K g_Ms mi_110 118 (ga_bin (fun x y => x * y) 119) := gs_imul (by decide +kernel : decode mi_110.2.1 118 = .ok (.imul, 1)) rfl
theorem s_110_119 {K : gC} : gOk K g_Ms mi_110 119 (ga_push (.int 22) 121) := gs_bipush (by decide +kernel : decode mi_110.2.1 119 = .ok (.bipush 22, 2)) (by decide) rfl
theorem s_110_121 {K : gC} : gOk K g_Ms mi_110 121 (ga_bin (fun x y => x + y) 122) := gs_iadd (by decide +kernel : decode mi_110.2.1 121 = .ok (.iadd, 1)) rfl
theorem s_110_122 {K : gC} : gOk K g_Ms mi_110 122 (ga_lald 123) := gs_lald (by decide +kernel : decode mi_110.2.1 122 = .ok (.laload, 1)) rfl
theorem s_110_123 {K : gC} : gOk K g_Ms mi_110 123 (ga_l2i 124) := gs_l2i (by decide +kernel : decode mi_110.2.1 123 = .ok (.l2i, 1)) rfl
theorem s_110_124 {K : gC} : gOk K g_Ms mi_110 124 (ga_putI 7 5 127) := gs_putI gcls_7 (by decide) (by decide) rfl rfl gw_661 (by decide +kernel : decode mi_110.2.1 124 = .ok (.putfield 160, 3)) rfl
theorem s_110_127 {K : gC} : gOk K g_Ms mi_110 127 (ga_aload 0 128) := gs_aload_n (by decide +kernel : decode mi_110.2.1 127 = .ok (.aload_n 0, 1)) rfl rfl
theorem s_110_128 {K : gC} : gOk K g_Ms mi_110 128 (ga_getI 7 21 131) := gs_getI gcls_7 (by decide) (by decide) gw_677 (by decide +kernel : decode mi_110.2.1 128 = .ok (.getfield 166, 3)) rfl
theorem s_110_131 {K : gC} : gOk K g_Ms mi_110 131 (ga_iret) := gs_iret (by decide +kernel : decode mi_110.2.1 131 = .ok (.ireturn, 1)) rfl
theorem ok_110 {K : gC} : ∀ e ∈ t_110, gOk K g_Ms mi_110 e.1 e.2 := by
  unfold t_110
  simp only [List.forall_mem_cons, List.not_mem_nil, false_implies, implies_true, and_true]
  exact ⟨s_110_0, s_110_1, s_110_2, s_110_3, s_110_6, s_110_9, s_110_11, s_110_12, s_110_13, s_110_16, s_110_17, s_110_18, s_110_21, s_110_23, s_110_24, s_110_25, s_110_26, s_110_27, s_110_29, s_110_32, s_110_33, s_110_36, s_110_37, s_110_38, s_110_41, s_110_43, s_110_44, s_110_45, s_110_46, s_110_47, s_110_48, s_110_49, s_110_50, s_110_53, s_110_54, s_110_55, s_110_58, s_110_60, s_110_61, s_110_62, s_110_64, s_110_65, s_110_66, s_110_67, s_110_68, s_110_69, s_110_70, s_110_73, s_110_76, s_110_77, s_110_78, s_110_81, s_110_83, s_110_84, s_110_85, s_110_87, s_110_88, s_110_89, s_110_90, s_110_93, s_110_94, s_110_95, s_110_98, s_110_100, s_110_101, s_110_102, s_110_104, s_110_105, s_110_106, s_110_107, s_110_110, s_110_111, s_110_112, s_110_115, s_110_117, s_110_118, s_110_119, s_110_121, s_110_122, s_110_123, s_110_124, s_110_127, s_110_128, s_110_131⟩
theorem s_111_0 {K : gC} : gOk K g_Ms mi_111 0 (ga_aload 0 1) := gs_aload_n (by decide +kernel : decode mi_111.2.1 0 = .ok (.aload_n 0, 1)) rfl rfl
theorem s_111_1 {K : gC} : gOk K g_Ms mi_111 1 (ga_iload 1 2) := gs_iload_n (by decide +kernel : decode mi_111.2.1 1 = .ok (.iload_n 1, 1)) rfl rfl
theorem s_111_2 {K : gC} : gOk K g_Ms mi_111 2 (ga_callV 7 99 1 5) := gs_callV gcls_7 (gce_X7_canHear (by decide) (by decide)) gw_823 gw_825 gw_24 (by decide +kernel : decode mi_111.2.1 2 = .ok (.invokevirtual 175, 3)) rfl
theorem s_111_5 {K : gC} : gOk K g_Ms mi_111 5 (ga_if (fun x => decide (x = 0)) 20 8) := gs_if_eq (by decide +kernel : decode mi_111.2.1 5 = .ok (.ifCond .eq 15, 3)) (by decide) rfl
theorem s_111_8 {K : gC} : gOk K g_Ms mi_111 8 (ga_iload 1 9) := gs_iload_n (by decide +kernel : decode mi_111.2.1 8 = .ok (.iload_n 1, 1)) rfl rfl
theorem s_111_9 {K : gC} : gOk K g_Ms mi_111 9 (ga_aload 0 10) := gs_aload_n (by decide +kernel : decode mi_111.2.1 9 = .ok (.aload_n 0, 1)) rfl rfl
theorem s_111_10 {K : gC} : gOk K g_Ms mi_111 10 (ga_getI 7 27 13) := gs_getI gcls_7 (by decide) (by decide) gw_683 (by decide +kernel : decode mi_111.2.1 10 = .ok (.getfield 52, 3)) rfl
theorem s_111_13 {K : gC} : gOk K g_Ms mi_111 13 (ga_cmp (fun x y => decide (x = y)) 20 16) := gs_cmp_eq (by decide +kernel : decode mi_111.2.1 13 = .ok (.if_icmp .eq 7, 3)) (by decide) rfl
theorem s_111_16 {K : gC} : gOk K g_Ms mi_111 16 (ga_push (.int 1) 17) := gs_iconst (by decide +kernel : decode mi_111.2.1 16 = .ok (.iconst 1, 1)) (by decide) rfl
theorem s_111_17 {K : gC} : gOk K g_Ms mi_111 17 (ga_goto 21) := gs_goto (by decide +kernel : decode mi_111.2.1 17 = .ok (.goto 4, 3)) (by decide)
theorem s_111_20 {K : gC} : gOk K g_Ms mi_111 20 (ga_push (.int 0) 21) := gs_iconst (by decide +kernel : decode mi_111.2.1 20 = .ok (.iconst 0, 1)) (by decide) rfl
theorem s_111_21 {K : gC} : gOk K g_Ms mi_111 21 (ga_zret) := gs_zret (by decide +kernel : decode mi_111.2.1 21 = .ok (.ireturn, 1)) rfl rfl rfl
theorem ok_111 {K : gC} : ∀ e ∈ t_111, gOk K g_Ms mi_111 e.1 e.2 := by
  unfold t_111
  simp only [List.forall_mem_cons, List.not_mem_nil, false_implies, implies_true, and_true]
  exact ⟨s_111_0, s_111_1, s_111_2, s_111_5, s_111_8, s_111_9, s_111_10, s_111_13, s_111_16, s_111_17, s_111_20, s_111_21⟩
theorem s_112_0 {K : gC} : gOk K g_Ms mi_112 0 (ga_push (.int 0) 1) := gs_iconst (by decide +kernel : decode mi_112.2.1 0 = .ok (.iconst 0, 1)) (by decide) rfl
theorem s_112_1 {K : gC} : gOk K g_Ms mi_112 1 (ga_istore 2 2) := gs_istore_n (by decide +kernel : decode mi_112.2.1 1 = .ok (.istore_n 2, 1)) rfl rfl
theorem s_112_2 {K : gC} : gOk K g_Ms mi_112 2 (ga_iload 1 3) := gs_iload_n (by decide +kernel : decode mi_112.2.1 2 = .ok (.iload_n 1, 1)) rfl rfl
theorem s_112_3 {K : gC} : gOk K g_Ms mi_112 3 (ga_istore 3 4) := gs_istore_n (by decide +kernel : decode mi_112.2.1 3 = .ok (.istore_n 3, 1)) rfl rfl
theorem s_112_4 {K : gC} : gOk K g_Ms mi_112 4 (ga_push (.int 0) 5) := gs_iconst (by decide +kernel : decode mi_112.2.1 4 = .ok (.iconst 0, 1)) (by decide) rfl
theorem s_112_5 {K : gC} : gOk K g_Ms mi_112 5 (ga_istore 4 7) := gs_istore (by decide +kernel : decode mi_112.2.1 5 = .ok (.istore 4, 2)) rfl
theorem s_112_7 {K : gC} : gOk K g_Ms mi_112 7 (ga_iload 4 9) := gs_iload (by decide +kernel : decode mi_112.2.1 7 = .ok (.iload 4, 2)) rfl
theorem s_112_9 {K : gC} : gOk K g_Ms mi_112 9 (ga_aload 0 10) := gs_aload_n (by decide +kernel : decode mi_112.2.1 9 = .ok (.aload_n 0, 1)) rfl rfl
theorem s_112_10 {K : gC} : gOk K g_Ms mi_112 10 (ga_getI 7 0 13) := gs_getI gcls_7 (by decide) (by decide) gw_656 (by decide +kernel : decode mi_112.2.1 10 = .ok (.getfield 7, 3)) rfl
theorem s_112_13 {K : gC} : gOk K g_Ms mi_112 13 (ga_cmp (fun x y => decide (y ≤ x)) 64 16) := gs_cmp_ge (by decide +kernel : decode mi_112.2.1 13 = .ok (.if_icmp .ge 51, 3)) (by decide) rfl
theorem s_112_16 {K : gC} : gOk K g_Ms mi_112 16 (ga_aload 0 17) := gs_aload_n (by decide +kernel : decode mi_112.2.1 16 = .ok (.aload_n 0, 1)) rfl rfl
theorem s_112_17 {K : gC} : gOk K g_Ms mi_112 17 (ga_iload 3 18) := gs_iload_n (by decide +kernel : decode mi_112.2.1 17 = .ok (.iload_n 3, 1)) rfl rfl
theorem s_112_18 {K : gC} : gOk K g_Ms mi_112 18 (ga_callV 7 111 1 21) := gs_callV gcls_7 (gce_X7_wakes (by decide) (by decide)) gw_879 gw_881 gw_29 (by decide +kernel : decode mi_112.2.1 18 = .ok (.invokevirtual 194, 3)) rfl
theorem s_112_21 {K : gC} : gOk K g_Ms mi_112 21 (ga_if (fun x => decide (x = 0)) 34 24) := gs_if_eq (by decide +kernel : decode mi_112.2.1 21 = .ok (.ifCond .eq 13, 3)) (by decide) rfl
theorem s_112_24 {K : gC} : gOk K g_Ms mi_112 24 (ga_aload 0 25) := gs_aload_n (by decide +kernel : decode mi_112.2.1 24 = .ok (.aload_n 0, 1)) rfl rfl
theorem s_112_25 {K : gC} : gOk K g_Ms mi_112 25 (ga_getR 7 3 28) := gs_getR gcls_7 (by decide) (by decide) gw_659 (by decide +kernel : decode mi_112.2.1 25 = .ok (.getfield 20, 3)) rfl
theorem s_112_28 {K : gC} : gOk K g_Ms mi_112 28 (ga_iload 3 29) := gs_iload_n (by decide +kernel : decode mi_112.2.1 28 = .ok (.iload_n 3, 1)) rfl rfl
theorem s_112_29 {K : gC} : gOk K g_Ms mi_112 29 (ga_iald 30) := gs_iald (by decide +kernel : decode mi_112.2.1 29 = .ok (.iaload, 1)) rfl
theorem s_112_30 {K : gC} : gOk K g_Ms mi_112 30 (ga_push (.int 3) 31) := gs_iconst (by decide +kernel : decode mi_112.2.1 30 = .ok (.iconst 3, 1)) (by decide) rfl
theorem s_112_31 {K : gC} : gOk K g_Ms mi_112 31 (ga_cmp (fun x y => decide (¬ x = y)) 36 34) := gs_cmp_ne (by decide +kernel : decode mi_112.2.1 31 = .ok (.if_icmp .ne 5, 3)) (by decide) rfl
theorem s_112_34 {K : gC} : gOk K g_Ms mi_112 34 (ga_push (.int (-1)) 35) := gs_iconst (by decide +kernel : decode mi_112.2.1 34 = .ok (.iconst (-1), 1)) (by decide) rfl
theorem s_112_35 {K : gC} : gOk K g_Ms mi_112 35 (ga_iret) := gs_iret (by decide +kernel : decode mi_112.2.1 35 = .ok (.ireturn, 1)) rfl
theorem s_112_36 {K : gC} : gOk K g_Ms mi_112 36 (ga_iload 2 37) := gs_iload_n (by decide +kernel : decode mi_112.2.1 36 = .ok (.iload_n 2, 1)) rfl rfl
theorem s_112_37 {K : gC} : gOk K g_Ms mi_112 37 (ga_aload 0 38) := gs_aload_n (by decide +kernel : decode mi_112.2.1 37 = .ok (.aload_n 0, 1)) rfl rfl
theorem s_112_38 {K : gC} : gOk K g_Ms mi_112 38 (ga_iload 3 39) := gs_iload_n (by decide +kernel : decode mi_112.2.1 38 = .ok (.iload_n 3, 1)) rfl rfl
theorem s_112_39 {K : gC} : gOk K g_Ms mi_112 39 (ga_callV 7 100 1 42) := gs_callV gcls_7 (gce_X7_lateOf (by decide) (by decide)) gw_831 gw_833 gw_25 (by decide +kernel : decode mi_112.2.1 39 = .ok (.invokevirtual 178, 3)) rfl
theorem s_112_42 {K : gC} : gOk K g_Ms mi_112 42 (ga_bin (fun x y => x + y) 43) := gs_iadd (by decide +kernel : decode mi_112.2.1 42 = .ok (.iadd, 1)) rfl
theorem s_112_43 {K : gC} : gOk K g_Ms mi_112 43 (ga_istore 2 44) := gs_istore_n (by decide +kernel : decode mi_112.2.1 43 = .ok (.istore_n 2, 1)) rfl rfl
theorem s_112_44 {K : gC} : gOk K g_Ms mi_112 44 (ga_aload 0 45) := gs_aload_n (by decide +kernel : decode mi_112.2.1 44 = .ok (.aload_n 0, 1)) rfl rfl
theorem s_112_45 {K : gC} : gOk K g_Ms mi_112 45 (ga_getR 7 1 48) := gs_getR gcls_7 (by decide) (by decide) gw_657 (by decide +kernel : decode mi_112.2.1 45 = .ok (.getfield 13, 3)) rfl
theorem s_112_48 {K : gC} : gOk K g_Ms mi_112 48 (ga_iload 3 49) := gs_iload_n (by decide +kernel : decode mi_112.2.1 48 = .ok (.iload_n 3, 1)) rfl rfl
theorem s_112_49 {K : gC} : gOk K g_Ms mi_112 49 (ga_iald 50) := gs_iald (by decide +kernel : decode mi_112.2.1 49 = .ok (.iaload, 1)) rfl
theorem s_112_50 {K : gC} : gOk K g_Ms mi_112 50 (ga_istore 3 51) := gs_istore_n (by decide +kernel : decode mi_112.2.1 50 = .ok (.istore_n 3, 1)) rfl rfl
theorem s_112_51 {K : gC} : gOk K g_Ms mi_112 51 (ga_iload 3 52) := gs_iload_n (by decide +kernel : decode mi_112.2.1 51 = .ok (.iload_n 3, 1)) rfl rfl
theorem s_112_52 {K : gC} : gOk K g_Ms mi_112 52 (ga_iload 1 53) := gs_iload_n (by decide +kernel : decode mi_112.2.1 52 = .ok (.iload_n 1, 1)) rfl rfl
theorem s_112_53 {K : gC} : gOk K g_Ms mi_112 53 (ga_cmp (fun x y => decide (¬ x = y)) 58 56) := gs_cmp_ne (by decide +kernel : decode mi_112.2.1 53 = .ok (.if_icmp .ne 5, 3)) (by decide) rfl
theorem s_112_56 {K : gC} : gOk K g_Ms mi_112 56 (ga_iload 2 57) := gs_iload_n (by decide +kernel : decode mi_112.2.1 56 = .ok (.iload_n 2, 1)) rfl rfl
theorem s_112_57 {K : gC} : gOk K g_Ms mi_112 57 (ga_iret) := gs_iret (by decide +kernel : decode mi_112.2.1 57 = .ok (.ireturn, 1)) rfl
theorem s_112_58 {K : gC} : gOk K g_Ms mi_112 58 (ga_iinc 4 1 61) := gs_iinc (by decide +kernel : decode mi_112.2.1 58 = .ok (.iinc 4 1, 3)) (by decide) rfl
theorem s_112_61 {K : gC} : gOk K g_Ms mi_112 61 (ga_goto 7) := gs_goto (by decide +kernel : decode mi_112.2.1 61 = .ok (.goto (-54), 3)) (by decide)
theorem s_112_64 {K : gC} : gOk K g_Ms mi_112 64 (ga_push (.int (-1)) 65) := gs_iconst (by decide +kernel : decode mi_112.2.1 64 = .ok (.iconst (-1), 1)) (by decide) rfl
theorem s_112_65 {K : gC} : gOk K g_Ms mi_112 65 (ga_iret) := gs_iret (by decide +kernel : decode mi_112.2.1 65 = .ok (.ireturn, 1)) rfl
theorem ok_112 {K : gC} : ∀ e ∈ t_112, gOk K g_Ms mi_112 e.1 e.2 := by
  unfold t_112
  simp only [List.forall_mem_cons, List.not_mem_nil, false_implies, implies_true, and_true]
  exact ⟨s_112_0, s_112_1, s_112_2, s_112_3, s_112_4, s_112_5, s_112_7, s_112_9, s_112_10, s_112_13, s_112_16, s_112_17, s_112_18, s_112_21, s_112_24, s_112_25, s_112_28, s_112_29, s_112_30, s_112_31, s_112_34, s_112_35, s_112_36, s_112_37, s_112_38, s_112_39, s_112_42, s_112_43, s_112_44, s_112_45, s_112_48, s_112_49, s_112_50, s_112_51, s_112_52, s_112_53, s_112_56, s_112_57, s_112_58, s_112_61, s_112_64, s_112_65⟩
theorem s_113_0 {K : gC} : gOk K g_Ms mi_113 0 (ga_push (.int 0) 1) := gs_iconst (by decide +kernel : decode mi_113.2.1 0 = .ok (.iconst 0, 1)) (by decide) rfl
theorem s_113_1 {K : gC} : gOk K g_Ms mi_113 1 (ga_istore 3 2) := gs_istore_n (by decide +kernel : decode mi_113.2.1 1 = .ok (.istore_n 3, 1)) rfl rfl
theorem s_113_2 {K : gC} : gOk K g_Ms mi_113 2 (ga_push (.int 1) 3) := gs_iconst (by decide +kernel : decode mi_113.2.1 2 = .ok (.iconst 1, 1)) (by decide) rfl
theorem s_113_3 {K : gC} : gOk K g_Ms mi_113 3 (ga_istore 4 5) := gs_istore (by decide +kernel : decode mi_113.2.1 3 = .ok (.istore 4, 2)) rfl
theorem s_113_5 {K : gC} : gOk K g_Ms mi_113 5 (ga_iload 2 6) := gs_iload_n (by decide +kernel : decode mi_113.2.1 5 = .ok (.iload_n 2, 1)) rfl rfl
theorem s_113_6 {K : gC} : gOk K g_Ms mi_113 6 (ga_istore 5 8) := gs_istore (by decide +kernel : decode mi_113.2.1 6 = .ok (.istore 5, 2)) rfl
theorem s_113_8 {K : gC} : gOk K g_Ms mi_113 8 (ga_push (.int 0) 9) := gs_iconst (by decide +kernel : decode mi_113.2.1 8 = .ok (.iconst 0, 1)) (by decide) rfl
theorem s_113_9 {K : gC} : gOk K g_Ms mi_113 9 (ga_istore 6 11) := gs_istore (by decide +kernel : decode mi_113.2.1 9 = .ok (.istore 6, 2)) rfl
theorem s_113_11 {K : gC} : gOk K g_Ms mi_113 11 (ga_iload 6 13) := gs_iload (by decide +kernel : decode mi_113.2.1 11 = .ok (.iload 6, 2)) rfl
theorem s_113_13 {K : gC} : gOk K g_Ms mi_113 13 (ga_aload 0 14) := gs_aload_n (by decide +kernel : decode mi_113.2.1 13 = .ok (.aload_n 0, 1)) rfl rfl
theorem s_113_14 {K : gC} : gOk K g_Ms mi_113 14 (ga_getI 7 0 17) := gs_getI gcls_7 (by decide) (by decide) gw_656 (by decide +kernel : decode mi_113.2.1 14 = .ok (.getfield 7, 3)) rfl
theorem s_113_17 {K : gC} : gOk K g_Ms mi_113 17 (ga_cmp (fun x y => decide (y < x)) 82 20) := gs_cmp_gt (by decide +kernel : decode mi_113.2.1 17 = .ok (.if_icmp .gt 65, 3)) (by decide) rfl
theorem s_113_20 {K : gC} : gOk K g_Ms mi_113 20 (ga_iload 5 22) := gs_iload (by decide +kernel : decode mi_113.2.1 20 = .ok (.iload 5, 2)) rfl
theorem s_113_22 {K : gC} : gOk K g_Ms mi_113 22 (ga_iload 1 23) := gs_iload_n (by decide +kernel : decode mi_113.2.1 22 = .ok (.iload_n 1, 1)) rfl rfl
theorem s_113_23 {K : gC} : gOk K g_Ms mi_113 23 (ga_cmp (fun x y => decide (x = y)) 82 26) := gs_cmp_eq (by decide +kernel : decode mi_113.2.1 23 = .ok (.if_icmp .eq 59, 3)) (by decide) rfl
theorem s_113_26 {K : gC} : gOk K g_Ms mi_113 26 (ga_aload 0 27) := gs_aload_n (by decide +kernel : decode mi_113.2.1 26 = .ok (.aload_n 0, 1)) rfl rfl
theorem s_113_27 {K : gC} : gOk K g_Ms mi_113 27 (ga_iload 5 29) := gs_iload (by decide +kernel : decode mi_113.2.1 27 = .ok (.iload 5, 2)) rfl
theorem s_113_29 {K : gC} : gOk K g_Ms mi_113 29 (ga_callV 7 111 1 32) := gs_callV gcls_7 (gce_X7_wakes (by decide) (by decide)) gw_879 gw_881 gw_29 (by decide +kernel : decode mi_113.2.1 29 = .ok (.invokevirtual 194, 3)) rfl
theorem s_113_32 {K : gC} : gOk K g_Ms mi_113 32 (ga_if (fun x => decide (¬ x = 0)) 37 35) := gs_if_ne (by decide +kernel : decode mi_113.2.1 32 = .ok (.ifCond .ne 5, 3)) (by decide) rfl
theorem s_113_35 {K : gC} : gOk K g_Ms mi_113 35 (ga_push (.int (-1)) 36) := gs_iconst (by decide +kernel : decode mi_113.2.1 35 = .ok (.iconst (-1), 1)) (by decide) rfl
theorem s_113_36 {K : gC} : gOk K g_Ms mi_113 36 (ga_iret) := gs_iret (by decide +kernel : decode mi_113.2.1 36 = .ok (.ireturn, 1)) rfl
theorem s_113_37 {K : gC} : gOk K g_Ms mi_113 37 (ga_iload 3 38) := gs_iload_n (by decide +kernel : decode mi_113.2.1 37 = .ok (.iload_n 3, 1)) rfl rfl
theorem s_113_38 {K : gC} : gOk K g_Ms mi_113 38 (ga_aload 0 39) := gs_aload_n (by decide +kernel : decode mi_113.2.1 38 = .ok (.aload_n 0, 1)) rfl rfl
theorem s_113_39 {K : gC} : gOk K g_Ms mi_113 39 (ga_iload 5 41) := gs_iload (by decide +kernel : decode mi_113.2.1 39 = .ok (.iload 5, 2)) rfl
theorem s_113_41 {K : gC} : gOk K g_Ms mi_113 41 (ga_callV 7 100 1 44) := gs_callV gcls_7 (gce_X7_lateOf (by decide) (by decide)) gw_831 gw_833 gw_25 (by decide +kernel : decode mi_113.2.1 41 = .ok (.invokevirtual 178, 3)) rfl
theorem s_113_44 {K : gC} : gOk K g_Ms mi_113 44 (ga_bin (fun x y => x + y) 45) := gs_iadd (by decide +kernel : decode mi_113.2.1 44 = .ok (.iadd, 1)) rfl
theorem s_113_45 {K : gC} : gOk K g_Ms mi_113 45 (ga_istore 3 46) := gs_istore_n (by decide +kernel : decode mi_113.2.1 45 = .ok (.istore_n 3, 1)) rfl rfl
theorem s_113_46 {K : gC} : gOk K g_Ms mi_113 46 (ga_iload 4 48) := gs_iload (by decide +kernel : decode mi_113.2.1 46 = .ok (.iload 4, 2)) rfl
theorem s_113_48 {K : gC} : gOk K g_Ms mi_113 48 (ga_aload 0 49) := gs_aload_n (by decide +kernel : decode mi_113.2.1 48 = .ok (.aload_n 0, 1)) rfl rfl
theorem s_113_49 {K : gC} : gOk K g_Ms mi_113 49 (ga_getR 7 3 52) := gs_getR gcls_7 (by decide) (by decide) gw_659 (by decide +kernel : decode mi_113.2.1 49 = .ok (.getfield 20, 3)) rfl
theorem s_113_52 {K : gC} : gOk K g_Ms mi_113 52 (ga_iload 5 54) := gs_iload (by decide +kernel : decode mi_113.2.1 52 = .ok (.iload 5, 2)) rfl
theorem s_113_54 {K : gC} : gOk K g_Ms mi_113 54 (ga_iald 55) := gs_iald (by decide +kernel : decode mi_113.2.1 54 = .ok (.iaload, 1)) rfl
theorem s_113_55 {K : gC} : gOk K g_Ms mi_113 55 (ga_push (.int 3) 56) := gs_iconst (by decide +kernel : decode mi_113.2.1 55 = .ok (.iconst 3, 1)) (by decide) rfl
theorem s_113_56 {K : gC} : gOk K g_Ms mi_113 56 (ga_cmp (fun x y => decide (¬ x = y)) 63 59) := gs_cmp_ne (by decide +kernel : decode mi_113.2.1 56 = .ok (.if_icmp .ne 7, 3)) (by decide) rfl
theorem s_113_59 {K : gC} : gOk K g_Ms mi_113 59 (ga_push (.int 2) 60) := gs_iconst (by decide +kernel : decode mi_113.2.1 59 = .ok (.iconst 2, 1)) (by decide) rfl
theorem s_113_60 {K : gC} : gOk K g_Ms mi_113 60 (ga_goto 64) := gs_goto (by decide +kernel : decode mi_113.2.1 60 = .ok (.goto 4, 3)) (by decide)
theorem s_113_63 {K : gC} : gOk K g_Ms mi_113 63 (ga_push (.int 1) 64) := gs_iconst (by decide +kernel : decode mi_113.2.1 63 = .ok (.iconst 1, 1)) (by decide) rfl
theorem s_113_64 {K : gC} : gOk K g_Ms mi_113 64 (ga_bin (fun x y => x * y) 65) := gs_imul (by decide +kernel : decode mi_113.2.1 64 = .ok (.imul, 1)) rfl
theorem s_113_65 {K : gC} : gOk K g_Ms mi_113 65 (ga_istore 4 67) := gs_istore (by decide +kernel : decode mi_113.2.1 65 = .ok (.istore 4, 2)) rfl
theorem s_113_67 {K : gC} : gOk K g_Ms mi_113 67 (ga_aload 0 68) := gs_aload_n (by decide +kernel : decode mi_113.2.1 67 = .ok (.aload_n 0, 1)) rfl rfl
theorem s_113_68 {K : gC} : gOk K g_Ms mi_113 68 (ga_getR 7 1 71) := gs_getR gcls_7 (by decide) (by decide) gw_657 (by decide +kernel : decode mi_113.2.1 68 = .ok (.getfield 13, 3)) rfl
theorem s_113_71 {K : gC} : gOk K g_Ms mi_113 71 (ga_iload 5 73) := gs_iload (by decide +kernel : decode mi_113.2.1 71 = .ok (.iload 5, 2)) rfl
theorem s_113_73 {K : gC} : gOk K g_Ms mi_113 73 (ga_iald 74) := gs_iald (by decide +kernel : decode mi_113.2.1 73 = .ok (.iaload, 1)) rfl
theorem s_113_74 {K : gC} : gOk K g_Ms mi_113 74 (ga_istore 5 76) := gs_istore (by decide +kernel : decode mi_113.2.1 74 = .ok (.istore 5, 2)) rfl
theorem s_113_76 {K : gC} : gOk K g_Ms mi_113 76 (ga_iinc 6 1 79) := gs_iinc (by decide +kernel : decode mi_113.2.1 76 = .ok (.iinc 6 1, 3)) (by decide) rfl
theorem s_113_79 {K : gC} : gOk K g_Ms mi_113 79 (ga_goto 11) := gs_goto (by decide +kernel : decode mi_113.2.1 79 = .ok (.goto (-68), 3)) (by decide)
theorem s_113_82 {K : gC} : gOk K g_Ms mi_113 82 (ga_iload 5 84) := gs_iload (by decide +kernel : decode mi_113.2.1 82 = .ok (.iload 5, 2)) rfl
theorem s_113_84 {K : gC} : gOk K g_Ms mi_113 84 (ga_iload 1 85) := gs_iload_n (by decide +kernel : decode mi_113.2.1 84 = .ok (.iload_n 1, 1)) rfl rfl
theorem s_113_85 {K : gC} : gOk K g_Ms mi_113 85 (ga_cmp (fun x y => decide (x = y)) 90 88) := gs_cmp_eq (by decide +kernel : decode mi_113.2.1 85 = .ok (.if_icmp .eq 5, 3)) (by decide) rfl
theorem s_113_88 {K : gC} : gOk K g_Ms mi_113 88 (ga_push (.int (-1)) 89) := gs_iconst (by decide +kernel : decode mi_113.2.1 88 = .ok (.iconst (-1), 1)) (by decide) rfl
theorem s_113_89 {K : gC} : gOk K g_Ms mi_113 89 (ga_iret) := gs_iret (by decide +kernel : decode mi_113.2.1 89 = .ok (.ireturn, 1)) rfl
theorem s_113_90 {K : gC} : gOk K g_Ms mi_113 90 (ga_aload 0 91) := gs_aload_n (by decide +kernel : decode mi_113.2.1 90 = .ok (.aload_n 0, 1)) rfl rfl
theorem s_113_91 {K : gC} : gOk K g_Ms mi_113 91 (ga_iload 1 92) := gs_iload_n (by decide +kernel : decode mi_113.2.1 91 = .ok (.iload_n 1, 1)) rfl rfl
theorem s_113_92 {K : gC} : gOk K g_Ms mi_113 92 (ga_callV 7 112 1 95) := gs_callV gcls_7 (gce_X7_roundOf (by decide) (by decide)) gw_883 gw_885 gw_30 (by decide +kernel : decode mi_113.2.1 92 = .ok (.invokevirtual 197, 3)) rfl
theorem s_113_95 {K : gC} : gOk K g_Ms mi_113 95 (ga_istore 6 97) := gs_istore (by decide +kernel : decode mi_113.2.1 95 = .ok (.istore 6, 2)) rfl
theorem s_113_97 {K : gC} : gOk K g_Ms mi_113 97 (ga_iload 4 99) := gs_iload (by decide +kernel : decode mi_113.2.1 97 = .ok (.iload 4, 2)) rfl
theorem s_113_99 {K : gC} : gOk K g_Ms mi_113 99 (ga_push (.int 1) 100) := gs_iconst (by decide +kernel : decode mi_113.2.1 99 = .ok (.iconst 1, 1)) (by decide) rfl
theorem s_113_100 {K : gC} : gOk K g_Ms mi_113 100 (ga_cmp (fun x y => decide (¬ x = y)) 107 103) := gs_cmp_ne (by decide +kernel : decode mi_113.2.1 100 = .ok (.if_icmp .ne 7, 3)) (by decide) rfl
theorem s_113_103 {K : gC} : gOk K g_Ms mi_113 103 (ga_iload 3 104) := gs_iload_n (by decide +kernel : decode mi_113.2.1 103 = .ok (.iload_n 3, 1)) rfl rfl
theorem s_113_104 {K : gC} : gOk K g_Ms mi_113 104 (ga_goto 126) := gs_goto (by decide +kernel : decode mi_113.2.1 104 = .ok (.goto 22, 3)) (by decide)
theorem s_113_107 {K : gC} : gOk K g_Ms mi_113 107 (ga_iload 6 109) := gs_iload (by decide +kernel : decode mi_113.2.1 107 = .ok (.iload 6, 2)) rfl
theorem s_113_109 {K : gC} : gOk K g_Ms mi_113 109 (ga_push (.int (-1)) 110) := gs_iconst (by decide +kernel : decode mi_113.2.1 109 = .ok (.iconst (-1), 1)) (by decide) rfl
theorem s_113_110 {K : gC} : gOk K g_Ms mi_113 110 (ga_cmp (fun x y => decide (¬ x = y)) 117 113) := gs_cmp_ne (by decide +kernel : decode mi_113.2.1 110 = .ok (.if_icmp .ne 7, 3)) (by decide) rfl
theorem s_113_113 {K : gC} : gOk K g_Ms mi_113 113 (ga_push (.int (-1)) 114) := gs_iconst (by decide +kernel : decode mi_113.2.1 113 = .ok (.iconst (-1), 1)) (by decide) rfl
theorem s_113_114 {K : gC} : gOk K g_Ms mi_113 114 (ga_goto 126) := gs_goto (by decide +kernel : decode mi_113.2.1 114 = .ok (.goto 12, 3)) (by decide)
theorem s_113_117 {K : gC} : gOk K g_Ms mi_113 117 (ga_iload 3 118) := gs_iload_n (by decide +kernel : decode mi_113.2.1 117 = .ok (.iload_n 3, 1)) rfl rfl
theorem s_113_118 {K : gC} : gOk K g_Ms mi_113 118 (ga_iload 4 120) := gs_iload (by decide +kernel : decode mi_113.2.1 118 = .ok (.iload 4, 2)) rfl
theorem s_113_120 {K : gC} : gOk K g_Ms mi_113 120 (ga_push (.int 1) 121) := gs_iconst (by decide +kernel : decode mi_113.2.1 120 = .ok (.iconst 1, 1)) (by decide) rfl
theorem s_113_121 {K : gC} : gOk K g_Ms mi_113 121 (ga_bin (fun x y => x - y) 122) := gs_isub (by decide +kernel : decode mi_113.2.1 121 = .ok (.isub, 1)) rfl
theorem s_113_122 {K : gC} : gOk K g_Ms mi_113 122 (ga_iload 6 124) := gs_iload (by decide +kernel : decode mi_113.2.1 122 = .ok (.iload 6, 2)) rfl
theorem s_113_124 {K : gC} : gOk K g_Ms mi_113 124 (ga_bin (fun x y => x * y) 125) := gs_imul (by decide +kernel : decode mi_113.2.1 124 = .ok (.imul, 1)) rfl
theorem s_113_125 {K : gC} : gOk K g_Ms mi_113 125 (ga_bin (fun x y => x + y) 126) := gs_iadd (by decide +kernel : decode mi_113.2.1 125 = .ok (.iadd, 1)) rfl
theorem s_113_126 {K : gC} : gOk K g_Ms mi_113 126 (ga_iret) := gs_iret (by decide +kernel : decode mi_113.2.1 126 = .ok (.ireturn, 1)) rfl
theorem ok_113 {K : gC} : ∀ e ∈ t_113, gOk K g_Ms mi_113 e.1 e.2 := by
  unfold t_113
  simp only [List.forall_mem_cons, List.not_mem_nil, false_implies, implies_true, and_true]
  exact ⟨s_113_0, s_113_1, s_113_2, s_113_3, s_113_5, s_113_6, s_113_8, s_113_9, s_113_11, s_113_13, s_113_14, s_113_17, s_113_20, s_113_22, s_113_23, s_113_26, s_113_27, s_113_29, s_113_32, s_113_35, s_113_36, s_113_37, s_113_38, s_113_39, s_113_41, s_113_44, s_113_45, s_113_46, s_113_48, s_113_49, s_113_52, s_113_54, s_113_55, s_113_56, s_113_59, s_113_60, s_113_63, s_113_64, s_113_65, s_113_67, s_113_68, s_113_71, s_113_73, s_113_74, s_113_76, s_113_79, s_113_82, s_113_84, s_113_85, s_113_88, s_113_89, s_113_90, s_113_91, s_113_92, s_113_95, s_113_97, s_113_99, s_113_100, s_113_103, s_113_104, s_113_107, s_113_109, s_113_110, s_113_113, s_113_114, s_113_117, s_113_118, s_113_120, s_113_121, s_113_122, s_113_124, s_113_125, s_113_126⟩
theorem s_114_0 {K : gC} : gOk K g_Ms mi_114 0 (ga_push (.int 0) 1) := gs_iconst (by decide +kernel : decode mi_114.2.1 0 = .ok (.iconst 0, 1)) (by decide) rfl
theorem s_114_1 {K : gC} : gOk K g_Ms mi_114 1 (ga_istore 2 2) := gs_istore_n (by decide +kernel : decode mi_114.2.1 1 = .ok (.istore_n 2, 1)) rfl rfl
theorem s_114_2 {K : gC} : gOk K g_Ms mi_114 2 (ga_push (.int 0) 3) := gs_iconst (by decide +kernel : decode mi_114.2.1 2 = .ok (.iconst 0, 1)) (by decide) rfl
theorem s_114_3 {K : gC} : gOk K g_Ms mi_114 3 (ga_istore 3 4) := gs_istore_n (by decide +kernel : decode mi_114.2.1 3 = .ok (.istore_n 3, 1)) rfl rfl
theorem s_114_4 {K : gC} : gOk K g_Ms mi_114 4 (ga_iload 3 5) := gs_iload_n (by decide +kernel : decode mi_114.2.1 4 = .ok (.iload_n 3, 1)) rfl rfl
theorem s_114_5 {K : gC} : gOk K g_Ms mi_114 5 (ga_aload 0 6) := gs_aload_n (by decide +kernel : decode mi_114.2.1 5 = .ok (.aload_n 0, 1)) rfl rfl
theorem s_114_6 {K : gC} : gOk K g_Ms mi_114 6 (ga_getI 7 0 9) := gs_getI gcls_7 (by decide) (by decide) gw_656 (by decide +kernel : decode mi_114.2.1 6 = .ok (.getfield 7, 3)) rfl
theorem s_114_9 {K : gC} : gOk K g_Ms mi_114 9 (ga_cmp (fun x y => decide (y ≤ x)) 50 12) := gs_cmp_ge (by decide +kernel : decode mi_114.2.1 9 = .ok (.if_icmp .ge 41, 3)) (by decide) rfl
theorem s_114_12 {K : gC} : gOk K g_Ms mi_114 12 (ga_aload 0 13) := gs_aload_n (by decide +kernel : decode mi_114.2.1 12 = .ok (.aload_n 0, 1)) rfl rfl
theorem s_114_13 {K : gC} : gOk K g_Ms mi_114 13 (ga_getR 7 26 16) := gs_getR gcls_7 (by decide) (by decide) gw_682 (by decide +kernel : decode mi_114.2.1 13 = .ok (.getfield 49, 3)) rfl
theorem s_114_16 {K : gC} : gOk K g_Ms mi_114 16 (ga_iload 3 17) := gs_iload_n (by decide +kernel : decode mi_114.2.1 16 = .ok (.iload_n 3, 1)) rfl rfl
theorem s_114_17 {K : gC} : gOk K g_Ms mi_114 17 (ga_aload 0 18) := gs_aload_n (by decide +kernel : decode mi_114.2.1 17 = .ok (.aload_n 0, 1)) rfl rfl
theorem s_114_18 {K : gC} : gOk K g_Ms mi_114 18 (ga_iload 1 19) := gs_iload_n (by decide +kernel : decode mi_114.2.1 18 = .ok (.iload_n 1, 1)) rfl rfl
theorem s_114_19 {K : gC} : gOk K g_Ms mi_114 19 (ga_iload 3 20) := gs_iload_n (by decide +kernel : decode mi_114.2.1 19 = .ok (.iload_n 3, 1)) rfl rfl
theorem s_114_20 {K : gC} : gOk K g_Ms mi_114 20 (ga_callV 7 113 2 23) := gs_callV gcls_7 (gce_X7_firstOf (by decide) (by decide)) gw_875 gw_877 gw_28 (by decide +kernel : decode mi_114.2.1 20 = .ok (.invokevirtual 200, 3)) rfl
theorem s_114_23 {K : gC} : gOk K g_Ms mi_114 23 (ga_iast 24) := gs_iast (by decide +kernel : decode mi_114.2.1 23 = .ok (.iastore, 1)) rfl
theorem s_114_24 {K : gC} : gOk K g_Ms mi_114 24 (ga_iload 2 25) := gs_iload_n (by decide +kernel : decode mi_114.2.1 24 = .ok (.iload_n 2, 1)) rfl rfl
theorem s_114_25 {K : gC} : gOk K g_Ms mi_114 25 (ga_aload 0 26) := gs_aload_n (by decide +kernel : decode mi_114.2.1 25 = .ok (.aload_n 0, 1)) rfl rfl
theorem s_114_26 {K : gC} : gOk K g_Ms mi_114 26 (ga_getR 7 26 29) := gs_getR gcls_7 (by decide) (by decide) gw_682 (by decide +kernel : decode mi_114.2.1 26 = .ok (.getfield 49, 3)) rfl
theorem s_114_29 {K : gC} : gOk K g_Ms mi_114 29 (ga_iload 3 30) := gs_iload_n (by decide +kernel : decode mi_114.2.1 29 = .ok (.iload_n 3, 1)) rfl rfl
theorem s_114_30 {K : gC} : gOk K g_Ms mi_114 30 (ga_iald 31) := gs_iald (by decide +kernel : decode mi_114.2.1 30 = .ok (.iaload, 1)) rfl
theorem s_114_31 {K : gC} : gOk K g_Ms mi_114 31 (ga_push (.int (-1)) 32) := gs_iconst (by decide +kernel : decode mi_114.2.1 31 = .ok (.iconst (-1), 1)) (by decide) rfl
theorem s_114_32 {K : gC} : gOk K g_Ms mi_114 32 (ga_cmp (fun x y => decide (¬ x = y)) 39 35) := gs_cmp_ne (by decide +kernel : decode mi_114.2.1 32 = .ok (.if_icmp .ne 7, 3)) (by decide) rfl
theorem s_114_35 {K : gC} : gOk K g_Ms mi_114 35 (ga_push (.int 0) 36) := gs_iconst (by decide +kernel : decode mi_114.2.1 35 = .ok (.iconst 0, 1)) (by decide) rfl
theorem s_114_36 {K : gC} : gOk K g_Ms mi_114 36 (ga_goto 42) := gs_goto (by decide +kernel : decode mi_114.2.1 36 = .ok (.goto 6, 3)) (by decide)
theorem s_114_39 {K : gC} : gOk K g_Ms mi_114 39 (ga_push (.int 1) 40) := gs_iconst (by decide +kernel : decode mi_114.2.1 39 = .ok (.iconst 1, 1)) (by decide) rfl
theorem s_114_40 {K : gC} : gOk K g_Ms mi_114 40 (ga_iload 3 41) := gs_iload_n (by decide +kernel : decode mi_114.2.1 40 = .ok (.iload_n 3, 1)) rfl rfl
theorem s_114_41 {K : gC} : gOk K g_Ms mi_114 41 (ga_bin (fun x y => x <<< (y &&& 31)) 42) := gs_ishl (by decide +kernel : decode mi_114.2.1 41 = .ok (.ishl, 1)) rfl
theorem s_114_42 {K : gC} : gOk K g_Ms mi_114 42 (ga_bin (fun x y => x ||| y) 43) := gs_ior (by decide +kernel : decode mi_114.2.1 42 = .ok (.ior, 1)) rfl
theorem s_114_43 {K : gC} : gOk K g_Ms mi_114 43 (ga_istore 2 44) := gs_istore_n (by decide +kernel : decode mi_114.2.1 43 = .ok (.istore_n 2, 1)) rfl rfl
theorem s_114_44 {K : gC} : gOk K g_Ms mi_114 44 (ga_iinc 3 1 47) := gs_iinc (by decide +kernel : decode mi_114.2.1 44 = .ok (.iinc 3 1, 3)) (by decide) rfl
theorem s_114_47 {K : gC} : gOk K g_Ms mi_114 47 (ga_goto 4) := gs_goto (by decide +kernel : decode mi_114.2.1 47 = .ok (.goto (-43), 3)) (by decide)
theorem s_114_50 {K : gC} : gOk K g_Ms mi_114 50 (ga_iload 2 51) := gs_iload_n (by decide +kernel : decode mi_114.2.1 50 = .ok (.iload_n 2, 1)) rfl rfl
theorem s_114_51 {K : gC} : gOk K g_Ms mi_114 51 (ga_iret) := gs_iret (by decide +kernel : decode mi_114.2.1 51 = .ok (.ireturn, 1)) rfl
theorem ok_114 {K : gC} : ∀ e ∈ t_114, gOk K g_Ms mi_114 e.1 e.2 := by
  unfold t_114
  simp only [List.forall_mem_cons, List.not_mem_nil, false_implies, implies_true, and_true]
  exact ⟨s_114_0, s_114_1, s_114_2, s_114_3, s_114_4, s_114_5, s_114_6, s_114_9, s_114_12, s_114_13, s_114_16, s_114_17, s_114_18, s_114_19, s_114_20, s_114_23, s_114_24, s_114_25, s_114_26, s_114_29, s_114_30, s_114_31, s_114_32, s_114_35, s_114_36, s_114_39, s_114_40, s_114_41, s_114_42, s_114_43, s_114_44, s_114_47, s_114_50, s_114_51⟩
theorem s_115_0 {K : gC} : gOk K g_Ms mi_115 0 (ga_aload 0 1) := gs_aload_n (by decide +kernel : decode mi_115.2.1 0 = .ok (.aload_n 0, 1)) rfl rfl
theorem s_115_1 {K : gC} : gOk K g_Ms mi_115 1 (ga_iload 1 2) := gs_iload_n (by decide +kernel : decode mi_115.2.1 1 = .ok (.iload_n 1, 1)) rfl rfl
theorem s_115_2 {K : gC} : gOk K g_Ms mi_115 2 (ga_callV 7 85 1 5) := gs_callV gcls_7 (gce_X7_isGong (by decide) (by decide)) gw_819 gw_821 gw_23 (by decide +kernel : decode mi_115.2.1 2 = .ok (.invokevirtual 172, 3)) rfl
theorem s_115_5 {K : gC} : gOk K g_Ms mi_115 5 (ga_if (fun x => decide (x = 0)) 25 8) := gs_if_eq (by decide +kernel : decode mi_115.2.1 5 = .ok (.ifCond .eq 20, 3)) (by decide) rfl
theorem s_115_8 {K : gC} : gOk K g_Ms mi_115 8 (ga_aload 0 9) := gs_aload_n (by decide +kernel : decode mi_115.2.1 8 = .ok (.aload_n 0, 1)) rfl rfl
theorem s_115_9 {K : gC} : gOk K g_Ms mi_115 9 (ga_iload 2 10) := gs_iload_n (by decide +kernel : decode mi_115.2.1 9 = .ok (.iload_n 2, 1)) rfl rfl
theorem s_115_10 {K : gC} : gOk K g_Ms mi_115 10 (ga_callV 7 85 1 13) := gs_callV gcls_7 (gce_X7_isGong (by decide) (by decide)) gw_819 gw_821 gw_23 (by decide +kernel : decode mi_115.2.1 10 = .ok (.invokevirtual 172, 3)) rfl
theorem s_115_13 {K : gC} : gOk K g_Ms mi_115 13 (ga_if (fun x => decide (x = 0)) 25 16) := gs_if_eq (by decide +kernel : decode mi_115.2.1 13 = .ok (.ifCond .eq 12, 3)) (by decide) rfl
theorem s_115_16 {K : gC} : gOk K g_Ms mi_115 16 (ga_aload 0 17) := gs_aload_n (by decide +kernel : decode mi_115.2.1 16 = .ok (.aload_n 0, 1)) rfl rfl
theorem s_115_17 {K : gC} : gOk K g_Ms mi_115 17 (ga_iload 1 18) := gs_iload_n (by decide +kernel : decode mi_115.2.1 17 = .ok (.iload_n 1, 1)) rfl rfl
theorem s_115_18 {K : gC} : gOk K g_Ms mi_115 18 (ga_iload 2 19) := gs_iload_n (by decide +kernel : decode mi_115.2.1 18 = .ok (.iload_n 2, 1)) rfl rfl
theorem s_115_19 {K : gC} : gOk K g_Ms mi_115 19 (ga_callV 7 113 2 22) := gs_callV gcls_7 (gce_X7_firstOf (by decide) (by decide)) gw_875 gw_877 gw_28 (by decide +kernel : decode mi_115.2.1 19 = .ok (.invokevirtual 200, 3)) rfl
theorem s_115_22 {K : gC} : gOk K g_Ms mi_115 22 (ga_goto 27) := gs_goto (by decide +kernel : decode mi_115.2.1 22 = .ok (.goto 5, 3)) (by decide)
theorem s_115_25 {K : gC} : gOk K g_Ms mi_115 25 (ga_push (.int (-2)) 27) := gs_bipush (by decide +kernel : decode mi_115.2.1 25 = .ok (.bipush (-2), 2)) (by decide) rfl
theorem s_115_27 {K : gC} : gOk K g_Ms mi_115 27 (ga_iret) := gs_iret (by decide +kernel : decode mi_115.2.1 27 = .ok (.ireturn, 1)) rfl
theorem ok_115 {K : gC} : ∀ e ∈ t_115, gOk K g_Ms mi_115 e.1 e.2 := by
  unfold t_115
  simp only [List.forall_mem_cons, List.not_mem_nil, false_implies, implies_true, and_true]
  exact ⟨s_115_0, s_115_1, s_115_2, s_115_5, s_115_8, s_115_9, s_115_10, s_115_13, s_115_16, s_115_17, s_115_18, s_115_19, s_115_22, s_115_25, s_115_27⟩
theorem s_116_0 {K : gC} : gOk K g_Ms mi_116 0 (ga_aload 0 1) := gs_aload_n (by decide +kernel : decode mi_116.2.1 0 = .ok (.aload_n 0, 1)) rfl rfl
theorem s_116_1 {K : gC} : gOk K g_Ms mi_116 1 (ga_iload 1 2) := gs_iload_n (by decide +kernel : decode mi_116.2.1 1 = .ok (.iload_n 1, 1)) rfl rfl
theorem s_116_2 {K : gC} : gOk K g_Ms mi_116 2 (ga_callV 7 85 1 5) := gs_callV gcls_7 (gce_X7_isGong (by decide) (by decide)) gw_819 gw_821 gw_23 (by decide +kernel : decode mi_116.2.1 2 = .ok (.invokevirtual 172, 3)) rfl
theorem s_116_5 {K : gC} : gOk K g_Ms mi_116 5 (ga_if (fun x => decide (x = 0)) 16 8) := gs_if_eq (by decide +kernel : decode mi_116.2.1 5 = .ok (.ifCond .eq 11, 3)) (by decide) rfl
theorem s_116_8 {K : gC} : gOk K g_Ms mi_116 8 (ga_aload 0 9) := gs_aload_n (by decide +kernel : decode mi_116.2.1 8 = .ok (.aload_n 0, 1)) rfl rfl
theorem s_116_9 {K : gC} : gOk K g_Ms mi_116 9 (ga_iload 1 10) := gs_iload_n (by decide +kernel : decode mi_116.2.1 9 = .ok (.iload_n 1, 1)) rfl rfl
theorem s_116_10 {K : gC} : gOk K g_Ms mi_116 10 (ga_callV 7 114 1 13) := gs_callV gcls_7 (gce_X7_layFirst (by decide) (by decide)) gw_891 gw_893 gw_31 (by decide +kernel : decode mi_116.2.1 10 = .ok (.invokevirtual 204, 3)) rfl
theorem s_116_13 {K : gC} : gOk K g_Ms mi_116 13 (ga_goto 18) := gs_goto (by decide +kernel : decode mi_116.2.1 13 = .ok (.goto 5, 3)) (by decide)
theorem s_116_16 {K : gC} : gOk K g_Ms mi_116 16 (ga_push (.int (-2)) 18) := gs_bipush (by decide +kernel : decode mi_116.2.1 16 = .ok (.bipush (-2), 2)) (by decide) rfl
theorem s_116_18 {K : gC} : gOk K g_Ms mi_116 18 (ga_iret) := gs_iret (by decide +kernel : decode mi_116.2.1 18 = .ok (.ireturn, 1)) rfl
theorem ok_116 {K : gC} : ∀ e ∈ t_116, gOk K g_Ms mi_116 e.1 e.2 := by
  unfold t_116
  simp only [List.forall_mem_cons, List.not_mem_nil, false_implies, implies_true, and_true]
  exact ⟨s_116_0, s_116_1, s_116_2, s_116_5, s_116_8, s_116_9, s_116_10, s_116_13, s_116_16, s_116_18⟩
theorem s_117_0 {K : gC} : gOk K g_Ms mi_117 0 (ga_aload 0 1) := gs_aload_n (by decide +kernel : decode mi_117.2.1 0 = .ok (.aload_n 0, 1)) rfl rfl
theorem s_117_1 {K : gC} : gOk K g_Ms mi_117 1 (ga_iload 1 2) := gs_iload_n (by decide +kernel : decode mi_117.2.1 1 = .ok (.iload_n 1, 1)) rfl rfl
theorem s_117_2 {K : gC} : gOk K g_Ms mi_117 2 (ga_callV 7 85 1 5) := gs_callV gcls_7 (gce_X7_isGong (by decide) (by decide)) gw_819 gw_821 gw_23 (by decide +kernel : decode mi_117.2.1 2 = .ok (.invokevirtual 172, 3)) rfl
theorem s_117_5 {K : gC} : gOk K g_Ms mi_117 5 (ga_if (fun x => decide (¬ x = 0)) 11 8) := gs_if_ne (by decide +kernel : decode mi_117.2.1 5 = .ok (.ifCond .ne 6, 3)) (by decide) rfl
theorem s_117_8 {K : gC} : gOk K g_Ms mi_117 8 (ga_push (.int (-2)) 10) := gs_bipush (by decide +kernel : decode mi_117.2.1 8 = .ok (.bipush (-2), 2)) (by decide) rfl
theorem s_117_10 {K : gC} : gOk K g_Ms mi_117 10 (ga_iret) := gs_iret (by decide +kernel : decode mi_117.2.1 10 = .ok (.ireturn, 1)) rfl
theorem s_117_11 {K : gC} : gOk K g_Ms mi_117 11 (ga_aload 0 12) := gs_aload_n (by decide +kernel : decode mi_117.2.1 11 = .ok (.aload_n 0, 1)) rfl rfl
theorem s_117_12 {K : gC} : gOk K g_Ms mi_117 12 (ga_iload 1 13) := gs_iload_n (by decide +kernel : decode mi_117.2.1 12 = .ok (.iload_n 1, 1)) rfl rfl
theorem s_117_13 {K : gC} : gOk K g_Ms mi_117 13 (ga_callV 7 112 1 16) := gs_callV gcls_7 (gce_X7_roundOf (by decide) (by decide)) gw_883 gw_885 gw_30 (by decide +kernel : decode mi_117.2.1 13 = .ok (.invokevirtual 197, 3)) rfl
theorem s_117_16 {K : gC} : gOk K g_Ms mi_117 16 (ga_push (.int (-1)) 17) := gs_iconst (by decide +kernel : decode mi_117.2.1 16 = .ok (.iconst (-1), 1)) (by decide) rfl
theorem s_117_17 {K : gC} : gOk K g_Ms mi_117 17 (ga_cmp (fun x y => decide (x = y)) 22 20) := gs_cmp_eq (by decide +kernel : decode mi_117.2.1 17 = .ok (.if_icmp .eq 5, 3)) (by decide) rfl
theorem s_117_20 {K : gC} : gOk K g_Ms mi_117 20 (ga_push (.int (-1)) 21) := gs_iconst (by decide +kernel : decode mi_117.2.1 20 = .ok (.iconst (-1), 1)) (by decide) rfl
theorem s_117_21 {K : gC} : gOk K g_Ms mi_117 21 (ga_iret) := gs_iret (by decide +kernel : decode mi_117.2.1 21 = .ok (.ireturn, 1)) rfl
theorem s_117_22 {K : gC} : gOk K g_Ms mi_117 22 (ga_aload 0 23) := gs_aload_n (by decide +kernel : decode mi_117.2.1 22 = .ok (.aload_n 0, 1)) rfl rfl
theorem s_117_23 {K : gC} : gOk K g_Ms mi_117 23 (ga_iload 1 24) := gs_iload_n (by decide +kernel : decode mi_117.2.1 23 = .ok (.iload_n 1, 1)) rfl rfl
theorem s_117_24 {K : gC} : gOk K g_Ms mi_117 24 (ga_callV 7 114 1 27) := gs_callV gcls_7 (gce_X7_layFirst (by decide) (by decide)) gw_891 gw_893 gw_31 (by decide +kernel : decode mi_117.2.1 24 = .ok (.invokevirtual 204, 3)) rfl
theorem s_117_27 {K : gC} : gOk K g_Ms mi_117 27 (ga_pop 28) := gs_pop (by decide +kernel : decode mi_117.2.1 27 = .ok (.pop, 1)) rfl
theorem s_117_28 {K : gC} : gOk K g_Ms mi_117 28 (ga_push (.int 0) 29) := gs_iconst (by decide +kernel : decode mi_117.2.1 28 = .ok (.iconst 0, 1)) (by decide) rfl
theorem s_117_29 {K : gC} : gOk K g_Ms mi_117 29 (ga_istore 2 30) := gs_istore_n (by decide +kernel : decode mi_117.2.1 29 = .ok (.istore_n 2, 1)) rfl rfl
theorem s_117_30 {K : gC} : gOk K g_Ms mi_117 30 (ga_push (.int 0) 31) := gs_iconst (by decide +kernel : decode mi_117.2.1 30 = .ok (.iconst 0, 1)) (by decide) rfl
theorem s_117_31 {K : gC} : gOk K g_Ms mi_117 31 (ga_istore 3 32) := gs_istore_n (by decide +kernel : decode mi_117.2.1 31 = .ok (.istore_n 3, 1)) rfl rfl
theorem s_117_32 {K : gC} : gOk K g_Ms mi_117 32 (ga_iload 3 33) := gs_iload_n (by decide +kernel : decode mi_117.2.1 32 = .ok (.iload_n 3, 1)) rfl rfl
theorem s_117_33 {K : gC} : gOk K g_Ms mi_117 33 (ga_aload 0 34) := gs_aload_n (by decide +kernel : decode mi_117.2.1 33 = .ok (.aload_n 0, 1)) rfl rfl
theorem s_117_34 {K : gC} : gOk K g_Ms mi_117 34 (ga_getI 7 0 37) := gs_getI gcls_7 (by decide) (by decide) gw_656 (by decide +kernel : decode mi_117.2.1 34 = .ok (.getfield 7, 3)) rfl
theorem s_117_37 {K : gC} : gOk K g_Ms mi_117 37 (ga_cmp (fun x y => decide (y ≤ x)) 67 40) := gs_cmp_ge (by decide +kernel : decode mi_117.2.1 37 = .ok (.if_icmp .ge 30, 3)) (by decide) rfl
theorem s_117_40 {K : gC} : gOk K g_Ms mi_117 40 (ga_aload 0 41) := gs_aload_n (by decide +kernel : decode mi_117.2.1 40 = .ok (.aload_n 0, 1)) rfl rfl
theorem s_117_41 {K : gC} : gOk K g_Ms mi_117 41 (ga_getR 7 26 44) := gs_getR gcls_7 (by decide) (by decide) gw_682 (by decide +kernel : decode mi_117.2.1 41 = .ok (.getfield 49, 3)) rfl
theorem s_117_44 {K : gC} : gOk K g_Ms mi_117 44 (ga_iload 3 45) := gs_iload_n (by decide +kernel : decode mi_117.2.1 44 = .ok (.iload_n 3, 1)) rfl rfl
theorem s_117_45 {K : gC} : gOk K g_Ms mi_117 45 (ga_iald 46) := gs_iald (by decide +kernel : decode mi_117.2.1 45 = .ok (.iaload, 1)) rfl
theorem s_117_46 {K : gC} : gOk K g_Ms mi_117 46 (ga_iload 2 47) := gs_iload_n (by decide +kernel : decode mi_117.2.1 46 = .ok (.iload_n 2, 1)) rfl rfl
theorem s_117_47 {K : gC} : gOk K g_Ms mi_117 47 (ga_cmp (fun x y => decide (x ≤ y)) 59 50) := gs_cmp_le (by decide +kernel : decode mi_117.2.1 47 = .ok (.if_icmp .le 12, 3)) (by decide) rfl
theorem s_117_50 {K : gC} : gOk K g_Ms mi_117 50 (ga_aload 0 51) := gs_aload_n (by decide +kernel : decode mi_117.2.1 50 = .ok (.aload_n 0, 1)) rfl rfl
theorem s_117_51 {K : gC} : gOk K g_Ms mi_117 51 (ga_getR 7 26 54) := gs_getR gcls_7 (by decide) (by decide) gw_682 (by decide +kernel : decode mi_117.2.1 51 = .ok (.getfield 49, 3)) rfl
theorem s_117_54 {K : gC} : gOk K g_Ms mi_117 54 (ga_iload 3 55) := gs_iload_n (by decide +kernel : decode mi_117.2.1 54 = .ok (.iload_n 3, 1)) rfl rfl
theorem s_117_55 {K : gC} : gOk K g_Ms mi_117 55 (ga_iald 56) := gs_iald (by decide +kernel : decode mi_117.2.1 55 = .ok (.iaload, 1)) rfl
theorem s_117_56 {K : gC} : gOk K g_Ms mi_117 56 (ga_goto 60) := gs_goto (by decide +kernel : decode mi_117.2.1 56 = .ok (.goto 4, 3)) (by decide)
theorem s_117_59 {K : gC} : gOk K g_Ms mi_117 59 (ga_iload 2 60) := gs_iload_n (by decide +kernel : decode mi_117.2.1 59 = .ok (.iload_n 2, 1)) rfl rfl
theorem s_117_60 {K : gC} : gOk K g_Ms mi_117 60 (ga_istore 2 61) := gs_istore_n (by decide +kernel : decode mi_117.2.1 60 = .ok (.istore_n 2, 1)) rfl rfl
theorem s_117_61 {K : gC} : gOk K g_Ms mi_117 61 (ga_iinc 3 1 64) := gs_iinc (by decide +kernel : decode mi_117.2.1 61 = .ok (.iinc 3 1, 3)) (by decide) rfl
theorem s_117_64 {K : gC} : gOk K g_Ms mi_117 64 (ga_goto 32) := gs_goto (by decide +kernel : decode mi_117.2.1 64 = .ok (.goto (-32), 3)) (by decide)
theorem s_117_67 {K : gC} : gOk K g_Ms mi_117 67 (ga_iload 2 68) := gs_iload_n (by decide +kernel : decode mi_117.2.1 67 = .ok (.iload_n 2, 1)) rfl rfl
theorem s_117_68 {K : gC} : gOk K g_Ms mi_117 68 (ga_iret) := gs_iret (by decide +kernel : decode mi_117.2.1 68 = .ok (.ireturn, 1)) rfl
theorem ok_117 {K : gC} : ∀ e ∈ t_117, gOk K g_Ms mi_117 e.1 e.2 := by
  unfold t_117
  simp only [List.forall_mem_cons, List.not_mem_nil, false_implies, implies_true, and_true]
  exact ⟨s_117_0, s_117_1, s_117_2, s_117_5, s_117_8, s_117_10, s_117_11, s_117_12, s_117_13, s_117_16, s_117_17, s_117_20, s_117_21, s_117_22, s_117_23, s_117_24, s_117_27, s_117_28, s_117_29, s_117_30, s_117_31, s_117_32, s_117_33, s_117_34, s_117_37, s_117_40, s_117_41, s_117_44, s_117_45, s_117_46, s_117_47, s_117_50, s_117_51, s_117_54, s_117_55, s_117_56, s_117_59, s_117_60, s_117_61, s_117_64, s_117_67, s_117_68⟩
theorem s_118_0 {K : gC} : gOk K g_Ms mi_118 0 (ga_aload 0 1) := gs_aload_n (by decide +kernel : decode mi_118.2.1 0 = .ok (.aload_n 0, 1)) rfl rfl
theorem s_118_1 {K : gC} : gOk K g_Ms mi_118 1 (ga_iload 1 2) := gs_iload_n (by decide +kernel : decode mi_118.2.1 1 = .ok (.iload_n 1, 1)) rfl rfl
theorem s_118_2 {K : gC} : gOk K g_Ms mi_118 2 (ga_callV 7 85 1 5) := gs_callV gcls_7 (gce_X7_isGong (by decide) (by decide)) gw_819 gw_821 gw_23 (by decide +kernel : decode mi_118.2.1 2 = .ok (.invokevirtual 172, 3)) rfl
theorem s_118_5 {K : gC} : gOk K g_Ms mi_118 5 (ga_if (fun x => decide (x = 0)) 16 8) := gs_if_eq (by decide +kernel : decode mi_118.2.1 5 = .ok (.ifCond .eq 11, 3)) (by decide) rfl
theorem s_118_8 {K : gC} : gOk K g_Ms mi_118 8 (ga_aload 0 9) := gs_aload_n (by decide +kernel : decode mi_118.2.1 8 = .ok (.aload_n 0, 1)) rfl rfl
theorem s_118_9 {K : gC} : gOk K g_Ms mi_118 9 (ga_iload 1 10) := gs_iload_n (by decide +kernel : decode mi_118.2.1 9 = .ok (.iload_n 1, 1)) rfl rfl
theorem s_118_10 {K : gC} : gOk K g_Ms mi_118 10 (ga_callV 7 112 1 13) := gs_callV gcls_7 (gce_X7_roundOf (by decide) (by decide)) gw_883 gw_885 gw_30 (by decide +kernel : decode mi_118.2.1 10 = .ok (.invokevirtual 197, 3)) rfl
theorem s_118_13 {K : gC} : gOk K g_Ms mi_118 13 (ga_goto 18) := gs_goto (by decide +kernel : decode mi_118.2.1 13 = .ok (.goto 5, 3)) (by decide)
theorem s_118_16 {K : gC} : gOk K g_Ms mi_118 16 (ga_push (.int (-2)) 18) := gs_bipush (by decide +kernel : decode mi_118.2.1 16 = .ok (.bipush (-2), 2)) (by decide) rfl
theorem s_118_18 {K : gC} : gOk K g_Ms mi_118 18 (ga_iret) := gs_iret (by decide +kernel : decode mi_118.2.1 18 = .ok (.ireturn, 1)) rfl
theorem ok_118 {K : gC} : ∀ e ∈ t_118, gOk K g_Ms mi_118 e.1 e.2 := by
  unfold t_118
  simp only [List.forall_mem_cons, List.not_mem_nil, false_implies, implies_true, and_true]
  exact ⟨s_118_0, s_118_1, s_118_2, s_118_5, s_118_8, s_118_9, s_118_10, s_118_13, s_118_16, s_118_18⟩
theorem s_119_0 {K : gC} : gOk K g_Ms mi_119 0 (ga_aload 0 1) := gs_aload_n (by decide +kernel : decode mi_119.2.1 0 = .ok (.aload_n 0, 1)) rfl rfl
theorem s_119_1 {K : gC} : gOk K g_Ms mi_119 1 (ga_iload 1 2) := gs_iload_n (by decide +kernel : decode mi_119.2.1 1 = .ok (.iload_n 1, 1)) rfl rfl
theorem s_119_2 {K : gC} : gOk K g_Ms mi_119 2 (ga_callV 7 85 1 5) := gs_callV gcls_7 (gce_X7_isGong (by decide) (by decide)) gw_819 gw_821 gw_23 (by decide +kernel : decode mi_119.2.1 2 = .ok (.invokevirtual 172, 3)) rfl
theorem s_119_5 {K : gC} : gOk K g_Ms mi_119 5 (ga_if (fun x => decide (x = 0)) 16 8) := gs_if_eq (by decide +kernel : decode mi_119.2.1 5 = .ok (.ifCond .eq 11, 3)) (by decide) rfl
theorem s_119_8 {K : gC} : gOk K g_Ms mi_119 8 (ga_aload 0 9) := gs_aload_n (by decide +kernel : decode mi_119.2.1 8 = .ok (.aload_n 0, 1)) rfl rfl
theorem s_119_9 {K : gC} : gOk K g_Ms mi_119 9 (ga_iload 2 10) := gs_iload_n (by decide +kernel : decode mi_119.2.1 9 = .ok (.iload_n 2, 1)) rfl rfl
theorem s_119_10 {K : gC} : gOk K g_Ms mi_119 10 (ga_callV 7 85 1 13) := gs_callV gcls_7 (gce_X7_isGong (by decide) (by decide)) gw_819 gw_821 gw_23 (by decide +kernel : decode mi_119.2.1 10 = .ok (.invokevirtual 172, 3)) rfl
theorem s_119_13 {K : gC} : gOk K g_Ms mi_119 13 (ga_if (fun x => decide (¬ x = 0)) 19 16) := gs_if_ne (by decide +kernel : decode mi_119.2.1 13 = .ok (.ifCond .ne 6, 3)) (by decide) rfl
theorem s_119_16 {K : gC} : gOk K g_Ms mi_119 16 (ga_push (.int (-2)) 18) := gs_bipush (by decide +kernel : decode mi_119.2.1 16 = .ok (.bipush (-2), 2)) (by decide) rfl
theorem s_119_18 {K : gC} : gOk K g_Ms mi_119 18 (ga_iret) := gs_iret (by decide +kernel : decode mi_119.2.1 18 = .ok (.ireturn, 1)) rfl
theorem s_119_19 {K : gC} : gOk K g_Ms mi_119 19 (ga_iload 3 20) := gs_iload_n (by decide +kernel : decode mi_119.2.1 19 = .ok (.iload_n 3, 1)) rfl rfl
theorem s_119_20 {K : gC} : gOk K g_Ms mi_119 20 (ga_push (.int 1) 21) := gs_iconst (by decide +kernel : decode mi_119.2.1 20 = .ok (.iconst 1, 1)) (by decide) rfl
theorem s_119_21 {K : gC} : gOk K g_Ms mi_119 21 (ga_push (.int 64) 23) := gs_bipush (by decide +kernel : decode mi_119.2.1 21 = .ok (.bipush 64, 2)) (by decide) rfl
theorem s_119_23 {K : gC} : gOk K g_Ms mi_119 23 (ga_call 83 3 26) := gs_callS (gce_X7_in (by decide) (by decide)) gw_751 gw_752 (by decide +kernel : decode mi_119.2.1 23 = .ok (.invokestatic 65, 3)) rfl
theorem s_119_26 {K : gC} : gOk K g_Ms mi_119 26 (ga_if (fun x => decide (¬ x = 0)) 32 29) := gs_if_ne (by decide +kernel : decode mi_119.2.1 26 = .ok (.ifCond .ne 6, 3)) (by decide) rfl
theorem s_119_29 {K : gC} : gOk K g_Ms mi_119 29 (ga_push (.int (-3)) 31) := gs_bipush (by decide +kernel : decode mi_119.2.1 29 = .ok (.bipush (-3), 2)) (by decide) rfl
theorem s_119_31 {K : gC} : gOk K g_Ms mi_119 31 (ga_iret) := gs_iret (by decide +kernel : decode mi_119.2.1 31 = .ok (.ireturn, 1)) rfl
theorem s_119_32 {K : gC} : gOk K g_Ms mi_119 32 (ga_aload 0 33) := gs_aload_n (by decide +kernel : decode mi_119.2.1 32 = .ok (.aload_n 0, 1)) rfl rfl
theorem s_119_33 {K : gC} : gOk K g_Ms mi_119 33 (ga_iload 1 34) := gs_iload_n (by decide +kernel : decode mi_119.2.1 33 = .ok (.iload_n 1, 1)) rfl rfl
theorem s_119_34 {K : gC} : gOk K g_Ms mi_119 34 (ga_callV 7 112 1 37) := gs_callV gcls_7 (gce_X7_roundOf (by decide) (by decide)) gw_883 gw_885 gw_30 (by decide +kernel : decode mi_119.2.1 34 = .ok (.invokevirtual 197, 3)) rfl
theorem s_119_37 {K : gC} : gOk K g_Ms mi_119 37 (ga_push (.int (-1)) 38) := gs_iconst (by decide +kernel : decode mi_119.2.1 37 = .ok (.iconst (-1), 1)) (by decide) rfl
theorem s_119_38 {K : gC} : gOk K g_Ms mi_119 38 (ga_cmp (fun x y => decide (x = y)) 43 41) := gs_cmp_eq (by decide +kernel : decode mi_119.2.1 38 = .ok (.if_icmp .eq 5, 3)) (by decide) rfl
theorem s_119_41 {K : gC} : gOk K g_Ms mi_119 41 (ga_push (.int (-1)) 42) := gs_iconst (by decide +kernel : decode mi_119.2.1 41 = .ok (.iconst (-1), 1)) (by decide) rfl
theorem s_119_42 {K : gC} : gOk K g_Ms mi_119 42 (ga_iret) := gs_iret (by decide +kernel : decode mi_119.2.1 42 = .ok (.ireturn, 1)) rfl
theorem s_119_43 {K : gC} : gOk K g_Ms mi_119 43 (ga_push (.int 0) 44) := gs_iconst (by decide +kernel : decode mi_119.2.1 43 = .ok (.iconst 0, 1)) (by decide) rfl
theorem s_119_44 {K : gC} : gOk K g_Ms mi_119 44 (ga_istore 4 46) := gs_istore (by decide +kernel : decode mi_119.2.1 44 = .ok (.istore 4, 2)) rfl
theorem s_119_46 {K : gC} : gOk K g_Ms mi_119 46 (ga_push (.int 0) 47) := gs_iconst (by decide +kernel : decode mi_119.2.1 46 = .ok (.iconst 0, 1)) (by decide) rfl
theorem s_119_47 {K : gC} : gOk K g_Ms mi_119 47 (ga_istore 5 49) := gs_istore (by decide +kernel : decode mi_119.2.1 47 = .ok (.istore 5, 2)) rfl
theorem s_119_49 {K : gC} : gOk K g_Ms mi_119 49 (ga_iload 5 51) := gs_iload (by decide +kernel : decode mi_119.2.1 49 = .ok (.iload 5, 2)) rfl
theorem s_119_51 {K : gC} : gOk K g_Ms mi_119 51 (ga_aload 0 52) := gs_aload_n (by decide +kernel : decode mi_119.2.1 51 = .ok (.aload_n 0, 1)) rfl rfl
theorem s_119_52 {K : gC} : gOk K g_Ms mi_119 52 (ga_getI 7 0 55) := gs_getI gcls_7 (by decide) (by decide) gw_656 (by decide +kernel : decode mi_119.2.1 52 = .ok (.getfield 7, 3)) rfl
theorem s_119_55 {K : gC} : gOk K g_Ms mi_119 55 (ga_cmp (fun x y => decide (y ≤ x)) 72 58) := gs_cmp_ge (by decide +kernel : decode mi_119.2.1 55 = .ok (.if_icmp .ge 17, 3)) (by decide) rfl
theorem s_119_58 {K : gC} : gOk K g_Ms mi_119 58 (ga_aload 0 59) := gs_aload_n (by decide +kernel : decode mi_119.2.1 58 = .ok (.aload_n 0, 1)) rfl rfl
theorem s_119_59 {K : gC} : gOk K g_Ms mi_119 59 (ga_getR 7 28 62) := gs_getR gcls_7 (by decide) (by decide) gw_684 (by decide +kernel : decode mi_119.2.1 59 = .ok (.getfield 55, 3)) rfl
theorem s_119_62 {K : gC} : gOk K g_Ms mi_119 62 (ga_iload 5 64) := gs_iload (by decide +kernel : decode mi_119.2.1 62 = .ok (.iload 5, 2)) rfl
theorem s_119_64 {K : gC} : gOk K g_Ms mi_119 64 (ga_push (.int 0) 65) := gs_iconst (by decide +kernel : decode mi_119.2.1 64 = .ok (.iconst 0, 1)) (by decide) rfl
theorem s_119_65 {K : gC} : gOk K g_Ms mi_119 65 (ga_iast 66) := gs_iast (by decide +kernel : decode mi_119.2.1 65 = .ok (.iastore, 1)) rfl
theorem s_119_66 {K : gC} : gOk K g_Ms mi_119 66 (ga_iinc 5 1 69) := gs_iinc (by decide +kernel : decode mi_119.2.1 66 = .ok (.iinc 5 1, 3)) (by decide) rfl
theorem s_119_69 {K : gC} : gOk K g_Ms mi_119 69 (ga_goto 49) := gs_goto (by decide +kernel : decode mi_119.2.1 69 = .ok (.goto (-20), 3)) (by decide)
theorem s_119_72 {K : gC} : gOk K g_Ms mi_119 72 (ga_push (.int 0) 73) := gs_iconst (by decide +kernel : decode mi_119.2.1 72 = .ok (.iconst 0, 1)) (by decide) rfl
theorem s_119_73 {K : gC} : gOk K g_Ms mi_119 73 (ga_istore 5 75) := gs_istore (by decide +kernel : decode mi_119.2.1 73 = .ok (.istore 5, 2)) rfl
theorem s_119_75 {K : gC} : gOk K g_Ms mi_119 75 (ga_iload 5 77) := gs_iload (by decide +kernel : decode mi_119.2.1 75 = .ok (.iload 5, 2)) rfl
theorem s_119_77 {K : gC} : gOk K g_Ms mi_119 77 (ga_iload 3 78) := gs_iload_n (by decide +kernel : decode mi_119.2.1 77 = .ok (.iload_n 3, 1)) rfl rfl
theorem s_119_78 {K : gC} : gOk K g_Ms mi_119 78 (ga_cmp (fun x y => decide (y ≤ x)) 219 81) := gs_cmp_ge (by decide +kernel : decode mi_119.2.1 78 = .ok (.if_icmp .ge 141, 3)) (by decide) rfl
theorem s_119_81 {K : gC} : gOk K g_Ms mi_119 81 (ga_push (.int 1) 82) := gs_iconst (by decide +kernel : decode mi_119.2.1 81 = .ok (.iconst 1, 1)) (by decide) rfl
theorem s_119_82 {K : gC} : gOk K g_Ms mi_119 82 (ga_istore 6 84) := gs_istore (by decide +kernel : decode mi_119.2.1 82 = .ok (.istore 6, 2)) rfl
theorem s_119_84 {K : gC} : gOk K g_Ms mi_119 84 (ga_aload 0 85) := gs_aload_n (by decide +kernel : decode mi_119.2.1 84 = .ok (.aload_n 0, 1)) rfl rfl
theorem s_119_85 {K : gC} : gOk K g_Ms mi_119 85 (ga_getR 7 29 88) := gs_getR gcls_7 (by decide) (by decide) gw_685 (by decide +kernel : decode mi_119.2.1 85 = .ok (.getfield 58, 3)) rfl
theorem s_119_88 {K : gC} : gOk K g_Ms mi_119 88 (ga_push (.int 0) 89) := gs_iconst (by decide +kernel : decode mi_119.2.1 88 = .ok (.iconst 0, 1)) (by decide) rfl
theorem s_119_89 {K : gC} : gOk K g_Ms mi_119 89 (ga_iload 1 90) := gs_iload_n (by decide +kernel : decode mi_119.2.1 89 = .ok (.iload_n 1, 1)) rfl rfl
theorem s_119_90 {K : gC} : gOk K g_Ms mi_119 90 (ga_iast 91) := gs_iast (by decide +kernel : decode mi_119.2.1 90 = .ok (.iastore, 1)) rfl
theorem s_119_91 {K : gC} : gOk K g_Ms mi_119 91 (ga_push (.int 0) 92) := gs_iconst (by decide +kernel : decode mi_119.2.1 91 = .ok (.iconst 0, 1)) (by decide) rfl
theorem s_119_92 {K : gC} : gOk K g_Ms mi_119 92 (ga_istore 7 94) := gs_istore (by decide +kernel : decode mi_119.2.1 92 = .ok (.istore 7, 2)) rfl
theorem s_119_94 {K : gC} : gOk K g_Ms mi_119 94 (ga_iload 7 96) := gs_iload (by decide +kernel : decode mi_119.2.1 94 = .ok (.iload 7, 2)) rfl
theorem s_119_96 {K : gC} : gOk K g_Ms mi_119 96 (ga_iload 6 98) := gs_iload (by decide +kernel : decode mi_119.2.1 96 = .ok (.iload 6, 2)) rfl
theorem s_119_98 {K : gC} : gOk K g_Ms mi_119 98 (ga_cmp (fun x y => decide (y ≤ x)) 213 101) := gs_cmp_ge (by decide +kernel : decode mi_119.2.1 98 = .ok (.if_icmp .ge 115, 3)) (by decide) rfl
theorem s_119_101 {K : gC} : gOk K g_Ms mi_119 101 (ga_aload 0 102) := gs_aload_n (by decide +kernel : decode mi_119.2.1 101 = .ok (.aload_n 0, 1)) rfl rfl
theorem s_119_102 {K : gC} : gOk K g_Ms mi_119 102 (ga_getR 7 29 105) := gs_getR gcls_7 (by decide) (by decide) gw_685 (by decide +kernel : decode mi_119.2.1 102 = .ok (.getfield 58, 3)) rfl
theorem s_119_105 {K : gC} : gOk K g_Ms mi_119 105 (ga_iload 7 107) := gs_iload (by decide +kernel : decode mi_119.2.1 105 = .ok (.iload 7, 2)) rfl
theorem s_119_107 {K : gC} : gOk K g_Ms mi_119 107 (ga_iald 108) := gs_iald (by decide +kernel : decode mi_119.2.1 107 = .ok (.iaload, 1)) rfl
theorem s_119_108 {K : gC} : gOk K g_Ms mi_119 108 (ga_istore 8 110) := gs_istore (by decide +kernel : decode mi_119.2.1 108 = .ok (.istore 8, 2)) rfl
theorem s_119_110 {K : gC} : gOk K g_Ms mi_119 110 (ga_aload 0 111) := gs_aload_n (by decide +kernel : decode mi_119.2.1 110 = .ok (.aload_n 0, 1)) rfl rfl
theorem s_119_111 {K : gC} : gOk K g_Ms mi_119 111 (ga_getR 7 28 114) := gs_getR gcls_7 (by decide) (by decide) gw_684 (by decide +kernel : decode mi_119.2.1 111 = .ok (.getfield 55, 3)) rfl
theorem s_119_114 {K : gC} : gOk K g_Ms mi_119 114 (ga_iload 8 116) := gs_iload (by decide +kernel : decode mi_119.2.1 114 = .ok (.iload 8, 2)) rfl
theorem s_119_116 {K : gC} : gOk K g_Ms mi_119 116 (ga_dup2 117) := gs_dup2 (by decide +kernel : decode mi_119.2.1 116 = .ok (.dup2, 1)) rfl
theorem s_119_117 {K : gC} : gOk K g_Ms mi_119 117 (ga_iald 118) := gs_iald (by decide +kernel : decode mi_119.2.1 117 = .ok (.iaload, 1)) rfl
theorem s_119_118 {K : gC} : gOk K g_Ms mi_119 118 (ga_push (.int 1) 119) := gs_iconst (by decide +kernel : decode mi_119.2.1 118 = .ok (.iconst 1, 1)) (by decide) rfl
theorem s_119_119 {K : gC} : gOk K g_Ms mi_119 119 (ga_bin (fun x y => x + y) 120) := gs_iadd (by decide +kernel : decode mi_119.2.1 119 = .ok (.iadd, 1)) rfl
theorem s_119_120 {K : gC} : gOk K g_Ms mi_119 120 (ga_iast 121) := gs_iast (by decide +kernel : decode mi_119.2.1 120 = .ok (.iastore, 1)) rfl
theorem s_119_121 {K : gC} : gOk K g_Ms mi_119 121 (ga_push (.int 0) 122) := gs_iconst (by decide +kernel : decode mi_119.2.1 121 = .ok (.iconst 0, 1)) (by decide) rfl
theorem s_119_122 {K : gC} : gOk K g_Ms mi_119 122 (ga_istore 9 124) := gs_istore (by decide +kernel : decode mi_119.2.1 122 = .ok (.istore 9, 2)) rfl
theorem s_119_124 {K : gC} : gOk K g_Ms mi_119 124 (ga_iload 9 126) := gs_iload (by decide +kernel : decode mi_119.2.1 124 = .ok (.iload 9, 2)) rfl
theorem s_119_126 {K : gC} : gOk K g_Ms mi_119 126 (ga_aload 0 127) := gs_aload_n (by decide +kernel : decode mi_119.2.1 126 = .ok (.aload_n 0, 1)) rfl rfl
theorem s_119_127 {K : gC} : gOk K g_Ms mi_119 127 (ga_getI 7 0 130) := gs_getI gcls_7 (by decide) (by decide) gw_656 (by decide +kernel : decode mi_119.2.1 127 = .ok (.getfield 7, 3)) rfl
theorem s_119_130 {K : gC} : gOk K g_Ms mi_119 130 (ga_cmp (fun x y => decide (y ≤ x)) 207 133) := gs_cmp_ge (by decide +kernel : decode mi_119.2.1 130 = .ok (.if_icmp .ge 77, 3)) (by decide) rfl
theorem s_119_133 {K : gC} : gOk K g_Ms mi_119 133 (ga_aload 0 134) := gs_aload_n (by decide +kernel : decode mi_119.2.1 133 = .ok (.aload_n 0, 1)) rfl rfl
theorem s_119_134 {K : gC} : gOk K g_Ms mi_119 134 (ga_getR 7 1 137) := gs_getR gcls_7 (by decide) (by decide) gw_657 (by decide +kernel : decode mi_119.2.1 134 = .ok (.getfield 13, 3)) rfl
theorem s_119_137 {K : gC} : gOk K g_Ms mi_119 137 (ga_iload 9 139) := gs_iload (by decide +kernel : decode mi_119.2.1 137 = .ok (.iload 9, 2)) rfl
theorem s_119_139 {K : gC} : gOk K g_Ms mi_119 139 (ga_iald 140) := gs_iald (by decide +kernel : decode mi_119.2.1 139 = .ok (.iaload, 1)) rfl
theorem s_119_140 {K : gC} : gOk K g_Ms mi_119 140 (ga_iload 8 142) := gs_iload (by decide +kernel : decode mi_119.2.1 140 = .ok (.iload 8, 2)) rfl
theorem s_119_142 {K : gC} : gOk K g_Ms mi_119 142 (ga_cmp (fun x y => decide (¬ x = y)) 201 145) := gs_cmp_ne (by decide +kernel : decode mi_119.2.1 142 = .ok (.if_icmp .ne 59, 3)) (by decide) rfl
theorem s_119_145 {K : gC} : gOk K g_Ms mi_119 145 (ga_aload 0 146) := gs_aload_n (by decide +kernel : decode mi_119.2.1 145 = .ok (.aload_n 0, 1)) rfl rfl
theorem s_119_146 {K : gC} : gOk K g_Ms mi_119 146 (ga_iload 9 148) := gs_iload (by decide +kernel : decode mi_119.2.1 146 = .ok (.iload 9, 2)) rfl
theorem s_119_148 {K : gC} : gOk K g_Ms mi_119 148 (ga_callV 7 99 1 151) := gs_callV gcls_7 (gce_X7_canHear (by decide) (by decide)) gw_823 gw_825 gw_24 (by decide +kernel : decode mi_119.2.1 148 = .ok (.invokevirtual 175, 3)) rfl
theorem s_119_151 {K : gC} : gOk K g_Ms mi_119 151 (ga_if (fun x => decide (x = 0)) 201 154) := gs_if_eq (by decide +kernel : decode mi_119.2.1 151 = .ok (.ifCond .eq 50, 3)) (by decide) rfl
theorem s_119_154 {K : gC} : gOk K g_Ms mi_119 154 (ga_aload 0 155) := gs_aload_n (by decide +kernel : decode mi_119.2.1 154 = .ok (.aload_n 0, 1)) rfl rfl
theorem s_119_155 {K : gC} : gOk K g_Ms mi_119 155 (ga_getR 7 3 158) := gs_getR gcls_7 (by decide) (by decide) gw_659 (by decide +kernel : decode mi_119.2.1 155 = .ok (.getfield 20, 3)) rfl
theorem s_119_158 {K : gC} : gOk K g_Ms mi_119 158 (ga_iload 9 160) := gs_iload (by decide +kernel : decode mi_119.2.1 158 = .ok (.iload 9, 2)) rfl
theorem s_119_160 {K : gC} : gOk K g_Ms mi_119 160 (ga_iald 161) := gs_iald (by decide +kernel : decode mi_119.2.1 160 = .ok (.iaload, 1)) rfl
theorem s_119_161 {K : gC} : gOk K g_Ms mi_119 161 (ga_push (.int 3) 162) := gs_iconst (by decide +kernel : decode mi_119.2.1 161 = .ok (.iconst 3, 1)) (by decide) rfl
theorem s_119_162 {K : gC} : gOk K g_Ms mi_119 162 (ga_cmp (fun x y => decide (¬ x = y)) 175 165) := gs_cmp_ne (by decide +kernel : decode mi_119.2.1 162 = .ok (.if_icmp .ne 13, 3)) (by decide) rfl
theorem s_119_165 {K : gC} : gOk K g_Ms mi_119 165 (ga_iload 4 167) := gs_iload (by decide +kernel : decode mi_119.2.1 165 = .ok (.iload 4, 2)) rfl
theorem s_119_167 {K : gC} : gOk K g_Ms mi_119 167 (ga_push (.int 1) 168) := gs_iconst (by decide +kernel : decode mi_119.2.1 167 = .ok (.iconst 1, 1)) (by decide) rfl
theorem s_119_168 {K : gC} : gOk K g_Ms mi_119 168 (ga_iload 9 170) := gs_iload (by decide +kernel : decode mi_119.2.1 168 = .ok (.iload 9, 2)) rfl
theorem s_119_170 {K : gC} : gOk K g_Ms mi_119 170 (ga_bin (fun x y => x <<< (y &&& 31)) 171) := gs_ishl (by decide +kernel : decode mi_119.2.1 170 = .ok (.ishl, 1)) rfl
theorem s_119_171 {K : gC} : gOk K g_Ms mi_119 171 (ga_bin (fun x y => x ^^^ y) 172) := gs_ixor (by decide +kernel : decode mi_119.2.1 171 = .ok (.ixor, 1)) rfl
theorem s_119_172 {K : gC} : gOk K g_Ms mi_119 172 (ga_goto 177) := gs_goto (by decide +kernel : decode mi_119.2.1 172 = .ok (.goto 5, 3)) (by decide)
theorem s_119_175 {K : gC} : gOk K g_Ms mi_119 175 (ga_iload 4 177) := gs_iload (by decide +kernel : decode mi_119.2.1 175 = .ok (.iload 4, 2)) rfl
theorem s_119_177 {K : gC} : gOk K g_Ms mi_119 177 (ga_istore 4 179) := gs_istore (by decide +kernel : decode mi_119.2.1 177 = .ok (.istore 4, 2)) rfl
theorem s_119_179 {K : gC} : gOk K g_Ms mi_119 179 (ga_iload 4 181) := gs_iload (by decide +kernel : decode mi_119.2.1 179 = .ok (.iload 4, 2)) rfl
theorem s_119_181 {K : gC} : gOk K g_Ms mi_119 181 (ga_iload 9 183) := gs_iload (by decide +kernel : decode mi_119.2.1 181 = .ok (.iload 9, 2)) rfl
theorem s_119_183 {K : gC} : gOk K g_Ms mi_119 183 (ga_call 84 2 186) := gs_callS (gce_X7_has (by decide) (by decide)) gw_847 gw_848 (by decide +kernel : decode mi_119.2.1 183 = .ok (.invokestatic 182, 3)) rfl
theorem s_119_186 {K : gC} : gOk K g_Ms mi_119 186 (ga_if (fun x => decide (¬ x = 0)) 201 189) := gs_if_ne (by decide +kernel : decode mi_119.2.1 186 = .ok (.ifCond .ne 15, 3)) (by decide) rfl
theorem s_119_189 {K : gC} : gOk K g_Ms mi_119 189 (ga_aload 0 190) := gs_aload_n (by decide +kernel : decode mi_119.2.1 189 = .ok (.aload_n 0, 1)) rfl rfl
theorem s_119_190 {K : gC} : gOk K g_Ms mi_119 190 (ga_getR 7 29 193) := gs_getR gcls_7 (by decide) (by decide) gw_685 (by decide +kernel : decode mi_119.2.1 190 = .ok (.getfield 58, 3)) rfl
theorem s_119_193 {K : gC} : gOk K g_Ms mi_119 193 (ga_iload 6 195) := gs_iload (by decide +kernel : decode mi_119.2.1 193 = .ok (.iload 6, 2)) rfl
theorem s_119_195 {K : gC} : gOk K g_Ms mi_119 195 (ga_iload 9 197) := gs_iload (by decide +kernel : decode mi_119.2.1 195 = .ok (.iload 9, 2)) rfl
theorem s_119_197 {K : gC} : gOk K g_Ms mi_119 197 (ga_iast 198) := gs_iast (by decide +kernel : decode mi_119.2.1 197 = .ok (.iastore, 1)) rfl
theorem s_119_198 {K : gC} : gOk K g_Ms mi_119 198 (ga_iinc 6 1 201) := gs_iinc (by decide +kernel : decode mi_119.2.1 198 = .ok (.iinc 6 1, 3)) (by decide) rfl
theorem s_119_201 {K : gC} : gOk K g_Ms mi_119 201 (ga_iinc 9 1 204) := gs_iinc (by decide +kernel : decode mi_119.2.1 201 = .ok (.iinc 9 1, 3)) (by decide) rfl
theorem s_119_204 {K : gC} : gOk K g_Ms mi_119 204 (ga_goto 124) := gs_goto (by decide +kernel : decode mi_119.2.1 204 = .ok (.goto (-80), 3)) (by decide)
theorem s_119_207 {K : gC} : gOk K g_Ms mi_119 207 (ga_iinc 7 1 210) := gs_iinc (by decide +kernel : decode mi_119.2.1 207 = .ok (.iinc 7 1, 3)) (by decide) rfl
theorem s_119_210 {K : gC} : gOk K g_Ms mi_119 210 (ga_goto 94) := gs_goto (by decide +kernel : decode mi_119.2.1 210 = .ok (.goto (-116), 3)) (by decide)
theorem s_119_213 {K : gC} : gOk K g_Ms mi_119 213 (ga_iinc 5 1 216) := gs_iinc (by decide +kernel : decode mi_119.2.1 213 = .ok (.iinc 5 1, 3)) (by decide) rfl
theorem s_119_216 {K : gC} : gOk K g_Ms mi_119 216 (ga_goto 75) := gs_goto (by decide +kernel : decode mi_119.2.1 216 = .ok (.goto (-141), 3)) (by decide)
theorem s_119_219 {K : gC} : gOk K g_Ms mi_119 219 (ga_aload 0 220) := gs_aload_n (by decide +kernel : decode mi_119.2.1 219 = .ok (.aload_n 0, 1)) rfl rfl
theorem s_119_220 {K : gC} : gOk K g_Ms mi_119 220 (ga_getR 7 28 223) := gs_getR gcls_7 (by decide) (by decide) gw_684 (by decide +kernel : decode mi_119.2.1 220 = .ok (.getfield 55, 3)) rfl
theorem s_119_223 {K : gC} : gOk K g_Ms mi_119 223 (ga_iload 2 224) := gs_iload_n (by decide +kernel : decode mi_119.2.1 223 = .ok (.iload_n 2, 1)) rfl rfl
theorem s_119_224 {K : gC} : gOk K g_Ms mi_119 224 (ga_iald 225) := gs_iald (by decide +kernel : decode mi_119.2.1 224 = .ok (.iaload, 1)) rfl
theorem s_119_225 {K : gC} : gOk K g_Ms mi_119 225 (ga_iret) := gs_iret (by decide +kernel : decode mi_119.2.1 225 = .ok (.ireturn, 1)) rfl
set_option maxRecDepth 1000000 in
theorem ok_119 {K : gC} : ∀ e ∈ t_119, gOk K g_Ms mi_119 e.1 e.2 := by
  unfold t_119
  simp only [List.forall_mem_cons, List.not_mem_nil, false_implies, implies_true, and_true]
  exact ⟨s_119_0, s_119_1, s_119_2, s_119_5, s_119_8, s_119_9, s_119_10, s_119_13, s_119_16, s_119_18, s_119_19, s_119_20, s_119_21, s_119_23, s_119_26, s_119_29, s_119_31, s_119_32, s_119_33, s_119_34, s_119_37, s_119_38, s_119_41, s_119_42, s_119_43, s_119_44, s_119_46, s_119_47, s_119_49, s_119_51, s_119_52, s_119_55, s_119_58, s_119_59, s_119_62, s_119_64, s_119_65, s_119_66, s_119_69, s_119_72, s_119_73, s_119_75, s_119_77, s_119_78, s_119_81, s_119_82, s_119_84, s_119_85, s_119_88, s_119_89, s_119_90, s_119_91, s_119_92, s_119_94, s_119_96, s_119_98, s_119_101, s_119_102, s_119_105, s_119_107, s_119_108, s_119_110, s_119_111, s_119_114, s_119_116, s_119_117, s_119_118, s_119_119, s_119_120, s_119_121, s_119_122, s_119_124, s_119_126, s_119_127, s_119_130, s_119_133, s_119_134, s_119_137, s_119_139, s_119_140, s_119_142, s_119_145, s_119_146, s_119_148, s_119_151, s_119_154, s_119_155, s_119_158, s_119_160, s_119_161, s_119_162, s_119_165, s_119_167, s_119_168, s_119_170, s_119_171, s_119_172, s_119_175, s_119_177, s_119_179, s_119_181, s_119_183, s_119_186, s_119_189, s_119_190, s_119_193, s_119_195, s_119_197, s_119_198, s_119_201, s_119_204, s_119_207, s_119_210, s_119_213, s_119_216, s_119_219, s_119_220, s_119_223, s_119_224, s_119_225⟩
theorem s_120_0 {K : gC} : gOk K g_Ms mi_120 0 (ga_aload 0 1) := gs_aload_n (by decide +kernel : decode mi_120.2.1 0 = .ok (.aload_n 0, 1)) rfl rfl
theorem s_120_1 {K : gC} : gOk K g_Ms mi_120 1 (ga_iload 1 2) := gs_iload_n (by decide +kernel : decode mi_120.2.1 1 = .ok (.iload_n 1, 1)) rfl rfl
theorem s_120_2 {K : gC} : gOk K g_Ms mi_120 2 (ga_iload 2 3) := gs_iload_n (by decide +kernel : decode mi_120.2.1 2 = .ok (.iload_n 2, 1)) rfl rfl
theorem s_120_3 {K : gC} : gOk K g_Ms mi_120 3 (ga_callV 7 113 2 6) := gs_callV gcls_7 (gce_X7_firstOf (by decide) (by decide)) gw_875 gw_877 gw_28 (by decide +kernel : decode mi_120.2.1 3 = .ok (.invokevirtual 200, 3)) rfl
theorem s_120_6 {K : gC} : gOk K g_Ms mi_120 6 (ga_istore 4 8) := gs_istore (by decide +kernel : decode mi_120.2.1 6 = .ok (.istore 4, 2)) rfl
theorem s_120_8 {K : gC} : gOk K g_Ms mi_120 8 (ga_aload 0 9) := gs_aload_n (by decide +kernel : decode mi_120.2.1 8 = .ok (.aload_n 0, 1)) rfl rfl
theorem s_120_9 {K : gC} : gOk K g_Ms mi_120 9 (ga_iload 1 10) := gs_iload_n (by decide +kernel : decode mi_120.2.1 9 = .ok (.iload_n 1, 1)) rfl rfl
theorem s_120_10 {K : gC} : gOk K g_Ms mi_120 10 (ga_iload 3 11) := gs_iload_n (by decide +kernel : decode mi_120.2.1 10 = .ok (.iload_n 3, 1)) rfl rfl
theorem s_120_11 {K : gC} : gOk K g_Ms mi_120 11 (ga_callV 7 113 2 14) := gs_callV gcls_7 (gce_X7_firstOf (by decide) (by decide)) gw_875 gw_877 gw_28 (by decide +kernel : decode mi_120.2.1 11 = .ok (.invokevirtual 200, 3)) rfl
theorem s_120_14 {K : gC} : gOk K g_Ms mi_120 14 (ga_istore 5 16) := gs_istore (by decide +kernel : decode mi_120.2.1 14 = .ok (.istore 5, 2)) rfl
theorem s_120_16 {K : gC} : gOk K g_Ms mi_120 16 (ga_iload 4 18) := gs_iload (by decide +kernel : decode mi_120.2.1 16 = .ok (.iload 4, 2)) rfl
theorem s_120_18 {K : gC} : gOk K g_Ms mi_120 18 (ga_push (.int (-1)) 19) := gs_iconst (by decide +kernel : decode mi_120.2.1 18 = .ok (.iconst (-1), 1)) (by decide) rfl
theorem s_120_19 {K : gC} : gOk K g_Ms mi_120 19 (ga_cmp (fun x y => decide (x = y)) 28 22) := gs_cmp_eq (by decide +kernel : decode mi_120.2.1 19 = .ok (.if_icmp .eq 9, 3)) (by decide) rfl
theorem s_120_22 {K : gC} : gOk K g_Ms mi_120 22 (ga_iload 5 24) := gs_iload (by decide +kernel : decode mi_120.2.1 22 = .ok (.iload 5, 2)) rfl
theorem s_120_24 {K : gC} : gOk K g_Ms mi_120 24 (ga_push (.int (-1)) 25) := gs_iconst (by decide +kernel : decode mi_120.2.1 24 = .ok (.iconst (-1), 1)) (by decide) rfl
theorem s_120_25 {K : gC} : gOk K g_Ms mi_120 25 (ga_cmp (fun x y => decide (¬ x = y)) 32 28) := gs_cmp_ne (by decide +kernel : decode mi_120.2.1 25 = .ok (.if_icmp .ne 7, 3)) (by decide) rfl
theorem s_120_28 {K : gC} : gOk K g_Ms mi_120 28 (ga_push (.int (-1)) 29) := gs_iconst (by decide +kernel : decode mi_120.2.1 28 = .ok (.iconst (-1), 1)) (by decide) rfl
theorem s_120_29 {K : gC} : gOk K g_Ms mi_120 29 (ga_goto 52) := gs_goto (by decide +kernel : decode mi_120.2.1 29 = .ok (.goto 23, 3)) (by decide)
theorem s_120_32 {K : gC} : gOk K g_Ms mi_120 32 (ga_iload 4 34) := gs_iload (by decide +kernel : decode mi_120.2.1 32 = .ok (.iload 4, 2)) rfl
theorem s_120_34 {K : gC} : gOk K g_Ms mi_120 34 (ga_iload 5 36) := gs_iload (by decide +kernel : decode mi_120.2.1 34 = .ok (.iload 5, 2)) rfl
theorem s_120_36 {K : gC} : gOk K g_Ms mi_120 36 (ga_cmp (fun x y => decide (x ≤ y)) 47 39) := gs_cmp_le (by decide +kernel : decode mi_120.2.1 36 = .ok (.if_icmp .le 11, 3)) (by decide) rfl
theorem s_120_39 {K : gC} : gOk K g_Ms mi_120 39 (ga_iload 4 41) := gs_iload (by decide +kernel : decode mi_120.2.1 39 = .ok (.iload 4, 2)) rfl
theorem s_120_41 {K : gC} : gOk K g_Ms mi_120 41 (ga_iload 5 43) := gs_iload (by decide +kernel : decode mi_120.2.1 41 = .ok (.iload 5, 2)) rfl
theorem s_120_43 {K : gC} : gOk K g_Ms mi_120 43 (ga_bin (fun x y => x - y) 44) := gs_isub (by decide +kernel : decode mi_120.2.1 43 = .ok (.isub, 1)) rfl
theorem s_120_44 {K : gC} : gOk K g_Ms mi_120 44 (ga_goto 52) := gs_goto (by decide +kernel : decode mi_120.2.1 44 = .ok (.goto 8, 3)) (by decide)
theorem s_120_47 {K : gC} : gOk K g_Ms mi_120 47 (ga_iload 5 49) := gs_iload (by decide +kernel : decode mi_120.2.1 47 = .ok (.iload 5, 2)) rfl
theorem s_120_49 {K : gC} : gOk K g_Ms mi_120 49 (ga_iload 4 51) := gs_iload (by decide +kernel : decode mi_120.2.1 49 = .ok (.iload 4, 2)) rfl
theorem s_120_51 {K : gC} : gOk K g_Ms mi_120 51 (ga_bin (fun x y => x - y) 52) := gs_isub (by decide +kernel : decode mi_120.2.1 51 = .ok (.isub, 1)) rfl
theorem s_120_52 {K : gC} : gOk K g_Ms mi_120 52 (ga_iret) := gs_iret (by decide +kernel : decode mi_120.2.1 52 = .ok (.ireturn, 1)) rfl
theorem ok_120 {K : gC} : ∀ e ∈ t_120, gOk K g_Ms mi_120 e.1 e.2 := by
  unfold t_120
  simp only [List.forall_mem_cons, List.not_mem_nil, false_implies, implies_true, and_true]
  exact ⟨s_120_0, s_120_1, s_120_2, s_120_3, s_120_6, s_120_8, s_120_9, s_120_10, s_120_11, s_120_14, s_120_16, s_120_18, s_120_19, s_120_22, s_120_24, s_120_25, s_120_28, s_120_29, s_120_32, s_120_34, s_120_36, s_120_39, s_120_41, s_120_43, s_120_44, s_120_47, s_120_49, s_120_51, s_120_52⟩
theorem s_121_0 {K : gC} : gOk K g_Ms mi_121 0 (ga_aload 0 1) := gs_aload_n (by decide +kernel : decode mi_121.2.1 0 = .ok (.aload_n 0, 1)) rfl rfl
theorem s_121_1 {K : gC} : gOk K g_Ms mi_121 1 (ga_iload 1 2) := gs_iload_n (by decide +kernel : decode mi_121.2.1 1 = .ok (.iload_n 1, 1)) rfl rfl
theorem s_121_2 {K : gC} : gOk K g_Ms mi_121 2 (ga_callV 7 85 1 5) := gs_callV gcls_7 (gce_X7_isGong (by decide) (by decide)) gw_819 gw_821 gw_23 (by decide +kernel : decode mi_121.2.1 2 = .ok (.invokevirtual 172, 3)) rfl
theorem s_121_5 {K : gC} : gOk K g_Ms mi_121 5 (ga_if (fun x => decide (x = 0)) 34 8) := gs_if_eq (by decide +kernel : decode mi_121.2.1 5 = .ok (.ifCond .eq 29, 3)) (by decide) rfl
theorem s_121_8 {K : gC} : gOk K g_Ms mi_121 8 (ga_aload 0 9) := gs_aload_n (by decide +kernel : decode mi_121.2.1 8 = .ok (.aload_n 0, 1)) rfl rfl
theorem s_121_9 {K : gC} : gOk K g_Ms mi_121 9 (ga_iload 2 10) := gs_iload_n (by decide +kernel : decode mi_121.2.1 9 = .ok (.iload_n 2, 1)) rfl rfl
theorem s_121_10 {K : gC} : gOk K g_Ms mi_121 10 (ga_callV 7 85 1 13) := gs_callV gcls_7 (gce_X7_isGong (by decide) (by decide)) gw_819 gw_821 gw_23 (by decide +kernel : decode mi_121.2.1 10 = .ok (.invokevirtual 172, 3)) rfl
theorem s_121_13 {K : gC} : gOk K g_Ms mi_121 13 (ga_if (fun x => decide (x = 0)) 34 16) := gs_if_eq (by decide +kernel : decode mi_121.2.1 13 = .ok (.ifCond .eq 21, 3)) (by decide) rfl
theorem s_121_16 {K : gC} : gOk K g_Ms mi_121 16 (ga_aload 0 17) := gs_aload_n (by decide +kernel : decode mi_121.2.1 16 = .ok (.aload_n 0, 1)) rfl rfl
theorem s_121_17 {K : gC} : gOk K g_Ms mi_121 17 (ga_iload 3 18) := gs_iload_n (by decide +kernel : decode mi_121.2.1 17 = .ok (.iload_n 3, 1)) rfl rfl
theorem s_121_18 {K : gC} : gOk K g_Ms mi_121 18 (ga_callV 7 85 1 21) := gs_callV gcls_7 (gce_X7_isGong (by decide) (by decide)) gw_819 gw_821 gw_23 (by decide +kernel : decode mi_121.2.1 18 = .ok (.invokevirtual 172, 3)) rfl
theorem s_121_21 {K : gC} : gOk K g_Ms mi_121 21 (ga_if (fun x => decide (x = 0)) 34 24) := gs_if_eq (by decide +kernel : decode mi_121.2.1 21 = .ok (.ifCond .eq 13, 3)) (by decide) rfl
theorem s_121_24 {K : gC} : gOk K g_Ms mi_121 24 (ga_aload 0 25) := gs_aload_n (by decide +kernel : decode mi_121.2.1 24 = .ok (.aload_n 0, 1)) rfl rfl
theorem s_121_25 {K : gC} : gOk K g_Ms mi_121 25 (ga_iload 1 26) := gs_iload_n (by decide +kernel : decode mi_121.2.1 25 = .ok (.iload_n 1, 1)) rfl rfl
theorem s_121_26 {K : gC} : gOk K g_Ms mi_121 26 (ga_iload 2 27) := gs_iload_n (by decide +kernel : decode mi_121.2.1 26 = .ok (.iload_n 2, 1)) rfl rfl
theorem s_121_27 {K : gC} : gOk K g_Ms mi_121 27 (ga_iload 3 28) := gs_iload_n (by decide +kernel : decode mi_121.2.1 27 = .ok (.iload_n 3, 1)) rfl rfl
theorem s_121_28 {K : gC} : gOk K g_Ms mi_121 28 (ga_callV 7 120 3 31) := gs_callV gcls_7 (gce_X7_apartOf (by decide) (by decide)) gw_911 gw_913 gw_32 (by decide +kernel : decode mi_121.2.1 28 = .ok (.invokevirtual 207, 3)) rfl
theorem s_121_31 {K : gC} : gOk K g_Ms mi_121 31 (ga_goto 36) := gs_goto (by decide +kernel : decode mi_121.2.1 31 = .ok (.goto 5, 3)) (by decide)
theorem s_121_34 {K : gC} : gOk K g_Ms mi_121 34 (ga_push (.int (-2)) 36) := gs_bipush (by decide +kernel : decode mi_121.2.1 34 = .ok (.bipush (-2), 2)) (by decide) rfl
theorem s_121_36 {K : gC} : gOk K g_Ms mi_121 36 (ga_iret) := gs_iret (by decide +kernel : decode mi_121.2.1 36 = .ok (.ireturn, 1)) rfl
theorem ok_121 {K : gC} : ∀ e ∈ t_121, gOk K g_Ms mi_121 e.1 e.2 := by
  unfold t_121
  simp only [List.forall_mem_cons, List.not_mem_nil, false_implies, implies_true, and_true]
  exact ⟨s_121_0, s_121_1, s_121_2, s_121_5, s_121_8, s_121_9, s_121_10, s_121_13, s_121_16, s_121_17, s_121_18, s_121_21, s_121_24, s_121_25, s_121_26, s_121_27, s_121_28, s_121_31, s_121_34, s_121_36⟩
theorem s_122_0 {K : gC} : gOk K g_Ms mi_122 0 (ga_aload 0 1) := gs_aload_n (by decide +kernel : decode mi_122.2.1 0 = .ok (.aload_n 0, 1)) rfl rfl
theorem s_122_1 {K : gC} : gOk K g_Ms mi_122 1 (ga_getR 7 3 4) := gs_getR gcls_7 (by decide) (by decide) gw_659 (by decide +kernel : decode mi_122.2.1 1 = .ok (.getfield 20, 3)) rfl
theorem s_122_4 {K : gC} : gOk K g_Ms mi_122 4 (ga_iload 1 5) := gs_iload_n (by decide +kernel : decode mi_122.2.1 4 = .ok (.iload_n 1, 1)) rfl rfl
theorem s_122_5 {K : gC} : gOk K g_Ms mi_122 5 (ga_iald 6) := gs_iald (by decide +kernel : decode mi_122.2.1 5 = .ok (.iaload, 1)) rfl
theorem s_122_6 {K : gC} : gOk K g_Ms mi_122 6 (ga_istore 3 7) := gs_istore_n (by decide +kernel : decode mi_122.2.1 6 = .ok (.istore_n 3, 1)) rfl rfl
theorem s_122_7 {K : gC} : gOk K g_Ms mi_122 7 (ga_aload 0 8) := gs_aload_n (by decide +kernel : decode mi_122.2.1 7 = .ok (.aload_n 0, 1)) rfl rfl
theorem s_122_8 {K : gC} : gOk K g_Ms mi_122 8 (ga_getR 7 3 11) := gs_getR gcls_7 (by decide) (by decide) gw_659 (by decide +kernel : decode mi_122.2.1 8 = .ok (.getfield 20, 3)) rfl
theorem s_122_11 {K : gC} : gOk K g_Ms mi_122 11 (ga_iload 1 12) := gs_iload_n (by decide +kernel : decode mi_122.2.1 11 = .ok (.iload_n 1, 1)) rfl rfl
theorem s_122_12 {K : gC} : gOk K g_Ms mi_122 12 (ga_aload 0 13) := gs_aload_n (by decide +kernel : decode mi_122.2.1 12 = .ok (.aload_n 0, 1)) rfl rfl
theorem s_122_13 {K : gC} : gOk K g_Ms mi_122 13 (ga_getR 7 3 16) := gs_getR gcls_7 (by decide) (by decide) gw_659 (by decide +kernel : decode mi_122.2.1 13 = .ok (.getfield 20, 3)) rfl
theorem s_122_16 {K : gC} : gOk K g_Ms mi_122 16 (ga_iload 2 17) := gs_iload_n (by decide +kernel : decode mi_122.2.1 16 = .ok (.iload_n 2, 1)) rfl rfl
theorem s_122_17 {K : gC} : gOk K g_Ms mi_122 17 (ga_iald 18) := gs_iald (by decide +kernel : decode mi_122.2.1 17 = .ok (.iaload, 1)) rfl
theorem s_122_18 {K : gC} : gOk K g_Ms mi_122 18 (ga_iast 19) := gs_iast (by decide +kernel : decode mi_122.2.1 18 = .ok (.iastore, 1)) rfl
theorem s_122_19 {K : gC} : gOk K g_Ms mi_122 19 (ga_aload 0 20) := gs_aload_n (by decide +kernel : decode mi_122.2.1 19 = .ok (.aload_n 0, 1)) rfl rfl
theorem s_122_20 {K : gC} : gOk K g_Ms mi_122 20 (ga_getR 7 3 23) := gs_getR gcls_7 (by decide) (by decide) gw_659 (by decide +kernel : decode mi_122.2.1 20 = .ok (.getfield 20, 3)) rfl
theorem s_122_23 {K : gC} : gOk K g_Ms mi_122 23 (ga_iload 2 24) := gs_iload_n (by decide +kernel : decode mi_122.2.1 23 = .ok (.iload_n 2, 1)) rfl rfl
theorem s_122_24 {K : gC} : gOk K g_Ms mi_122 24 (ga_iload 3 25) := gs_iload_n (by decide +kernel : decode mi_122.2.1 24 = .ok (.iload_n 3, 1)) rfl rfl
theorem s_122_25 {K : gC} : gOk K g_Ms mi_122 25 (ga_iast 26) := gs_iast (by decide +kernel : decode mi_122.2.1 25 = .ok (.iastore, 1)) rfl
theorem s_122_26 {K : gC} : gOk K g_Ms mi_122 26 (ga_aload 0 27) := gs_aload_n (by decide +kernel : decode mi_122.2.1 26 = .ok (.aload_n 0, 1)) rfl rfl
theorem s_122_27 {K : gC} : gOk K g_Ms mi_122 27 (ga_getR 7 4 30) := gs_getR gcls_7 (by decide) (by decide) gw_660 (by decide +kernel : decode mi_122.2.1 27 = .ok (.getfield 23, 3)) rfl
theorem s_122_30 {K : gC} : gOk K g_Ms mi_122 30 (ga_iload 1 31) := gs_iload_n (by decide +kernel : decode mi_122.2.1 30 = .ok (.iload_n 1, 1)) rfl rfl
theorem s_122_31 {K : gC} : gOk K g_Ms mi_122 31 (ga_iald 32) := gs_iald (by decide +kernel : decode mi_122.2.1 31 = .ok (.iaload, 1)) rfl
theorem s_122_32 {K : gC} : gOk K g_Ms mi_122 32 (ga_istore 4 34) := gs_istore (by decide +kernel : decode mi_122.2.1 32 = .ok (.istore 4, 2)) rfl
theorem s_122_34 {K : gC} : gOk K g_Ms mi_122 34 (ga_aload 0 35) := gs_aload_n (by decide +kernel : decode mi_122.2.1 34 = .ok (.aload_n 0, 1)) rfl rfl
theorem s_122_35 {K : gC} : gOk K g_Ms mi_122 35 (ga_getR 7 4 38) := gs_getR gcls_7 (by decide) (by decide) gw_660 (by decide +kernel : decode mi_122.2.1 35 = .ok (.getfield 23, 3)) rfl
theorem s_122_38 {K : gC} : gOk K g_Ms mi_122 38 (ga_iload 1 39) := gs_iload_n (by decide +kernel : decode mi_122.2.1 38 = .ok (.iload_n 1, 1)) rfl rfl
theorem s_122_39 {K : gC} : gOk K g_Ms mi_122 39 (ga_aload 0 40) := gs_aload_n (by decide +kernel : decode mi_122.2.1 39 = .ok (.aload_n 0, 1)) rfl rfl
theorem s_122_40 {K : gC} : gOk K g_Ms mi_122 40 (ga_getR 7 4 43) := gs_getR gcls_7 (by decide) (by decide) gw_660 (by decide +kernel : decode mi_122.2.1 40 = .ok (.getfield 23, 3)) rfl
theorem s_122_43 {K : gC} : gOk K g_Ms mi_122 43 (ga_iload 2 44) := gs_iload_n (by decide +kernel : decode mi_122.2.1 43 = .ok (.iload_n 2, 1)) rfl rfl
theorem s_122_44 {K : gC} : gOk K g_Ms mi_122 44 (ga_iald 45) := gs_iald (by decide +kernel : decode mi_122.2.1 44 = .ok (.iaload, 1)) rfl
theorem s_122_45 {K : gC} : gOk K g_Ms mi_122 45 (ga_iast 46) := gs_iast (by decide +kernel : decode mi_122.2.1 45 = .ok (.iastore, 1)) rfl
theorem s_122_46 {K : gC} : gOk K g_Ms mi_122 46 (ga_aload 0 47) := gs_aload_n (by decide +kernel : decode mi_122.2.1 46 = .ok (.aload_n 0, 1)) rfl rfl
theorem s_122_47 {K : gC} : gOk K g_Ms mi_122 47 (ga_getR 7 4 50) := gs_getR gcls_7 (by decide) (by decide) gw_660 (by decide +kernel : decode mi_122.2.1 47 = .ok (.getfield 23, 3)) rfl
theorem s_122_50 {K : gC} : gOk K g_Ms mi_122 50 (ga_iload 2 51) := gs_iload_n (by decide +kernel : decode mi_122.2.1 50 = .ok (.iload_n 2, 1)) rfl rfl
theorem s_122_51 {K : gC} : gOk K g_Ms mi_122 51 (ga_iload 4 53) := gs_iload (by decide +kernel : decode mi_122.2.1 51 = .ok (.iload 4, 2)) rfl
theorem s_122_53 {K : gC} : gOk K g_Ms mi_122 53 (ga_iast 54) := gs_iast (by decide +kernel : decode mi_122.2.1 53 = .ok (.iastore, 1)) rfl
theorem s_122_54 {K : gC} : gOk K g_Ms mi_122 54 (ga_vret) := gs_vret (by decide +kernel : decode mi_122.2.1 54 = .ok (.return_, 1)) rfl
theorem ok_122 {K : gC} : ∀ e ∈ t_122, gOk K g_Ms mi_122 e.1 e.2 := by
  unfold t_122
  simp only [List.forall_mem_cons, List.not_mem_nil, false_implies, implies_true, and_true]
  exact ⟨s_122_0, s_122_1, s_122_4, s_122_5, s_122_6, s_122_7, s_122_8, s_122_11, s_122_12, s_122_13, s_122_16, s_122_17, s_122_18, s_122_19, s_122_20, s_122_23, s_122_24, s_122_25, s_122_26, s_122_27, s_122_30, s_122_31, s_122_32, s_122_34, s_122_35, s_122_38, s_122_39, s_122_40, s_122_43, s_122_44, s_122_45, s_122_46, s_122_47, s_122_50, s_122_51, s_122_53, s_122_54⟩
theorem s_123_0 {K : gC} : gOk K g_Ms mi_123 0 (ga_aload 0 1) := gs_aload_n (by decide +kernel : decode mi_123.2.1 0 = .ok (.aload_n 0, 1)) rfl rfl
theorem s_123_1 {K : gC} : gOk K g_Ms mi_123 1 (ga_iload 1 2) := gs_iload_n (by decide +kernel : decode mi_123.2.1 1 = .ok (.iload_n 1, 1)) rfl rfl
theorem s_123_2 {K : gC} : gOk K g_Ms mi_123 2 (ga_callV 7 85 1 5) := gs_callV gcls_7 (gce_X7_isGong (by decide) (by decide)) gw_819 gw_821 gw_23 (by decide +kernel : decode mi_123.2.1 2 = .ok (.invokevirtual 172, 3)) rfl
theorem s_123_5 {K : gC} : gOk K g_Ms mi_123 5 (ga_if (fun x => decide (x = 0)) 24 8) := gs_if_eq (by decide +kernel : decode mi_123.2.1 5 = .ok (.ifCond .eq 19, 3)) (by decide) rfl
theorem s_123_8 {K : gC} : gOk K g_Ms mi_123 8 (ga_aload 0 9) := gs_aload_n (by decide +kernel : decode mi_123.2.1 8 = .ok (.aload_n 0, 1)) rfl rfl
theorem s_123_9 {K : gC} : gOk K g_Ms mi_123 9 (ga_iload 2 10) := gs_iload_n (by decide +kernel : decode mi_123.2.1 9 = .ok (.iload_n 2, 1)) rfl rfl
theorem s_123_10 {K : gC} : gOk K g_Ms mi_123 10 (ga_callV 7 85 1 13) := gs_callV gcls_7 (gce_X7_isGong (by decide) (by decide)) gw_819 gw_821 gw_23 (by decide +kernel : decode mi_123.2.1 10 = .ok (.invokevirtual 172, 3)) rfl
theorem s_123_13 {K : gC} : gOk K g_Ms mi_123 13 (ga_if (fun x => decide (x = 0)) 24 16) := gs_if_eq (by decide +kernel : decode mi_123.2.1 13 = .ok (.ifCond .eq 11, 3)) (by decide) rfl
theorem s_123_16 {K : gC} : gOk K g_Ms mi_123 16 (ga_aload 0 17) := gs_aload_n (by decide +kernel : decode mi_123.2.1 16 = .ok (.aload_n 0, 1)) rfl rfl
theorem s_123_17 {K : gC} : gOk K g_Ms mi_123 17 (ga_iload 3 18) := gs_iload_n (by decide +kernel : decode mi_123.2.1 17 = .ok (.iload_n 3, 1)) rfl rfl
theorem s_123_18 {K : gC} : gOk K g_Ms mi_123 18 (ga_callV 7 85 1 21) := gs_callV gcls_7 (gce_X7_isGong (by decide) (by decide)) gw_819 gw_821 gw_23 (by decide +kernel : decode mi_123.2.1 18 = .ok (.invokevirtual 172, 3)) rfl
theorem s_123_21 {K : gC} : gOk K g_Ms mi_123 21 (ga_if (fun x => decide (¬ x = 0)) 27 24) := gs_if_ne (by decide +kernel : decode mi_123.2.1 21 = .ok (.ifCond .ne 6, 3)) (by decide) rfl
theorem s_123_24 {K : gC} : gOk K g_Ms mi_123 24 (ga_push (.int (-2)) 26) := gs_bipush (by decide +kernel : decode mi_123.2.1 24 = .ok (.bipush (-2), 2)) (by decide) rfl
theorem s_123_26 {K : gC} : gOk K g_Ms mi_123 26 (ga_iret) := gs_iret (by decide +kernel : decode mi_123.2.1 26 = .ok (.ireturn, 1)) rfl
theorem s_123_27 {K : gC} : gOk K g_Ms mi_123 27 (ga_iload 4 29) := gs_iload (by decide +kernel : decode mi_123.2.1 27 = .ok (.iload 4, 2)) rfl
theorem s_123_29 {K : gC} : gOk K g_Ms mi_123 29 (ga_push (.int 0) 30) := gs_iconst (by decide +kernel : decode mi_123.2.1 29 = .ok (.iconst 0, 1)) (by decide) rfl
theorem s_123_30 {K : gC} : gOk K g_Ms mi_123 30 (ga_push (.int 2) 31) := gs_iconst (by decide +kernel : decode mi_123.2.1 30 = .ok (.iconst 2, 1)) (by decide) rfl
theorem s_123_31 {K : gC} : gOk K g_Ms mi_123 31 (ga_call 83 3 34) := gs_callS (gce_X7_in (by decide) (by decide)) gw_751 gw_752 (by decide +kernel : decode mi_123.2.1 31 = .ok (.invokestatic 65, 3)) rfl
theorem s_123_34 {K : gC} : gOk K g_Ms mi_123 34 (ga_if (fun x => decide (¬ x = 0)) 40 37) := gs_if_ne (by decide +kernel : decode mi_123.2.1 34 = .ok (.ifCond .ne 6, 3)) (by decide) rfl
theorem s_123_37 {K : gC} : gOk K g_Ms mi_123 37 (ga_push (.int (-3)) 39) := gs_bipush (by decide +kernel : decode mi_123.2.1 37 = .ok (.bipush (-3), 2)) (by decide) rfl
theorem s_123_39 {K : gC} : gOk K g_Ms mi_123 39 (ga_iret) := gs_iret (by decide +kernel : decode mi_123.2.1 39 = .ok (.ireturn, 1)) rfl
theorem s_123_40 {K : gC} : gOk K g_Ms mi_123 40 (ga_aload 0 41) := gs_aload_n (by decide +kernel : decode mi_123.2.1 40 = .ok (.aload_n 0, 1)) rfl rfl
theorem s_123_41 {K : gC} : gOk K g_Ms mi_123 41 (ga_iload 1 42) := gs_iload_n (by decide +kernel : decode mi_123.2.1 41 = .ok (.iload_n 1, 1)) rfl rfl
theorem s_123_42 {K : gC} : gOk K g_Ms mi_123 42 (ga_iload 2 43) := gs_iload_n (by decide +kernel : decode mi_123.2.1 42 = .ok (.iload_n 2, 1)) rfl rfl
theorem s_123_43 {K : gC} : gOk K g_Ms mi_123 43 (ga_iload 3 44) := gs_iload_n (by decide +kernel : decode mi_123.2.1 43 = .ok (.iload_n 3, 1)) rfl rfl
theorem s_123_44 {K : gC} : gOk K g_Ms mi_123 44 (ga_callV 7 120 3 47) := gs_callV gcls_7 (gce_X7_apartOf (by decide) (by decide)) gw_911 gw_913 gw_32 (by decide +kernel : decode mi_123.2.1 44 = .ok (.invokevirtual 207, 3)) rfl
theorem s_123_47 {K : gC} : gOk K g_Ms mi_123 47 (ga_istore 5 49) := gs_istore (by decide +kernel : decode mi_123.2.1 47 = .ok (.istore 5, 2)) rfl
theorem s_123_49 {K : gC} : gOk K g_Ms mi_123 49 (ga_push (.int (-1)) 50) := gs_iconst (by decide +kernel : decode mi_123.2.1 49 = .ok (.iconst (-1), 1)) (by decide) rfl
theorem s_123_50 {K : gC} : gOk K g_Ms mi_123 50 (ga_istore 6 52) := gs_istore (by decide +kernel : decode mi_123.2.1 50 = .ok (.istore 6, 2)) rfl
theorem s_123_52 {K : gC} : gOk K g_Ms mi_123 52 (ga_push (.int (-1)) 53) := gs_iconst (by decide +kernel : decode mi_123.2.1 52 = .ok (.iconst (-1), 1)) (by decide) rfl
theorem s_123_53 {K : gC} : gOk K g_Ms mi_123 53 (ga_istore 7 55) := gs_istore (by decide +kernel : decode mi_123.2.1 53 = .ok (.istore 7, 2)) rfl
theorem s_123_55 {K : gC} : gOk K g_Ms mi_123 55 (ga_push (.int 0) 56) := gs_iconst (by decide +kernel : decode mi_123.2.1 55 = .ok (.iconst 0, 1)) (by decide) rfl
theorem s_123_56 {K : gC} : gOk K g_Ms mi_123 56 (ga_istore 8 58) := gs_istore (by decide +kernel : decode mi_123.2.1 56 = .ok (.istore 8, 2)) rfl
theorem s_123_58 {K : gC} : gOk K g_Ms mi_123 58 (ga_iload 8 60) := gs_iload (by decide +kernel : decode mi_123.2.1 58 = .ok (.iload 8, 2)) rfl
theorem s_123_60 {K : gC} : gOk K g_Ms mi_123 60 (ga_aload 0 61) := gs_aload_n (by decide +kernel : decode mi_123.2.1 60 = .ok (.aload_n 0, 1)) rfl rfl
theorem s_123_61 {K : gC} : gOk K g_Ms mi_123 61 (ga_getI 7 0 64) := gs_getI gcls_7 (by decide) (by decide) gw_656 (by decide +kernel : decode mi_123.2.1 61 = .ok (.getfield 7, 3)) rfl
theorem s_123_64 {K : gC} : gOk K g_Ms mi_123 64 (ga_cmp (fun x y => decide (y ≤ x)) 150 67) := gs_cmp_ge (by decide +kernel : decode mi_123.2.1 64 = .ok (.if_icmp .ge 86, 3)) (by decide) rfl
theorem s_123_67 {K : gC} : gOk K g_Ms mi_123 67 (ga_iload 8 69) := gs_iload (by decide +kernel : decode mi_123.2.1 67 = .ok (.iload 8, 2)) rfl
theorem s_123_69 {K : gC} : gOk K g_Ms mi_123 69 (ga_push (.int 1) 70) := gs_iconst (by decide +kernel : decode mi_123.2.1 69 = .ok (.iconst 1, 1)) (by decide) rfl
theorem s_123_70 {K : gC} : gOk K g_Ms mi_123 70 (ga_bin (fun x y => x + y) 71) := gs_iadd (by decide +kernel : decode mi_123.2.1 70 = .ok (.iadd, 1)) rfl
theorem s_123_71 {K : gC} : gOk K g_Ms mi_123 71 (ga_istore 9 73) := gs_istore (by decide +kernel : decode mi_123.2.1 71 = .ok (.istore 9, 2)) rfl
theorem s_123_73 {K : gC} : gOk K g_Ms mi_123 73 (ga_iload 9 75) := gs_iload (by decide +kernel : decode mi_123.2.1 73 = .ok (.iload 9, 2)) rfl
theorem s_123_75 {K : gC} : gOk K g_Ms mi_123 75 (ga_aload 0 76) := gs_aload_n (by decide +kernel : decode mi_123.2.1 75 = .ok (.aload_n 0, 1)) rfl rfl
theorem s_123_76 {K : gC} : gOk K g_Ms mi_123 76 (ga_getI 7 0 79) := gs_getI gcls_7 (by decide) (by decide) gw_656 (by decide +kernel : decode mi_123.2.1 76 = .ok (.getfield 7, 3)) rfl
theorem s_123_79 {K : gC} : gOk K g_Ms mi_123 79 (ga_cmp (fun x y => decide (y ≤ x)) 144 82) := gs_cmp_ge (by decide +kernel : decode mi_123.2.1 79 = .ok (.if_icmp .ge 65, 3)) (by decide) rfl
theorem s_123_82 {K : gC} : gOk K g_Ms mi_123 82 (ga_aload 0 83) := gs_aload_n (by decide +kernel : decode mi_123.2.1 82 = .ok (.aload_n 0, 1)) rfl rfl
theorem s_123_83 {K : gC} : gOk K g_Ms mi_123 83 (ga_iload 8 85) := gs_iload (by decide +kernel : decode mi_123.2.1 83 = .ok (.iload 8, 2)) rfl
theorem s_123_85 {K : gC} : gOk K g_Ms mi_123 85 (ga_iload 9 87) := gs_iload (by decide +kernel : decode mi_123.2.1 85 = .ok (.iload 9, 2)) rfl
theorem s_123_87 {K : gC} : gOk K g_Ms mi_123 87 (ga_callV 7 122 2 90) := gs_callV gcls_7 (gce_X7_exchange (by decide) (by decide)) gw_919 gw_921 gw_33 (by decide +kernel : decode mi_123.2.1 87 = .ok (.invokevirtual 211, 3)) rfl
theorem s_123_90 {K : gC} : gOk K g_Ms mi_123 90 (ga_aload 0 91) := gs_aload_n (by decide +kernel : decode mi_123.2.1 90 = .ok (.aload_n 0, 1)) rfl rfl
theorem s_123_91 {K : gC} : gOk K g_Ms mi_123 91 (ga_iload 1 92) := gs_iload_n (by decide +kernel : decode mi_123.2.1 91 = .ok (.iload_n 1, 1)) rfl rfl
theorem s_123_92 {K : gC} : gOk K g_Ms mi_123 92 (ga_iload 2 93) := gs_iload_n (by decide +kernel : decode mi_123.2.1 92 = .ok (.iload_n 2, 1)) rfl rfl
theorem s_123_93 {K : gC} : gOk K g_Ms mi_123 93 (ga_iload 3 94) := gs_iload_n (by decide +kernel : decode mi_123.2.1 93 = .ok (.iload_n 3, 1)) rfl rfl
theorem s_123_94 {K : gC} : gOk K g_Ms mi_123 94 (ga_callV 7 120 3 97) := gs_callV gcls_7 (gce_X7_apartOf (by decide) (by decide)) gw_911 gw_913 gw_32 (by decide +kernel : decode mi_123.2.1 94 = .ok (.invokevirtual 207, 3)) rfl
theorem s_123_97 {K : gC} : gOk K g_Ms mi_123 97 (ga_istore 10 99) := gs_istore (by decide +kernel : decode mi_123.2.1 97 = .ok (.istore 10, 2)) rfl
theorem s_123_99 {K : gC} : gOk K g_Ms mi_123 99 (ga_aload 0 100) := gs_aload_n (by decide +kernel : decode mi_123.2.1 99 = .ok (.aload_n 0, 1)) rfl rfl
theorem s_123_100 {K : gC} : gOk K g_Ms mi_123 100 (ga_iload 8 102) := gs_iload (by decide +kernel : decode mi_123.2.1 100 = .ok (.iload 8, 2)) rfl
theorem s_123_102 {K : gC} : gOk K g_Ms mi_123 102 (ga_iload 9 104) := gs_iload (by decide +kernel : decode mi_123.2.1 102 = .ok (.iload 9, 2)) rfl
theorem s_123_104 {K : gC} : gOk K g_Ms mi_123 104 (ga_callV 7 122 2 107) := gs_callV gcls_7 (gce_X7_exchange (by decide) (by decide)) gw_919 gw_921 gw_33 (by decide +kernel : decode mi_123.2.1 104 = .ok (.invokevirtual 211, 3)) rfl
theorem s_123_107 {K : gC} : gOk K g_Ms mi_123 107 (ga_iload 10 109) := gs_iload (by decide +kernel : decode mi_123.2.1 107 = .ok (.iload 10, 2)) rfl
theorem s_123_109 {K : gC} : gOk K g_Ms mi_123 109 (ga_push (.int (-1)) 110) := gs_iconst (by decide +kernel : decode mi_123.2.1 109 = .ok (.iconst (-1), 1)) (by decide) rfl
theorem s_123_110 {K : gC} : gOk K g_Ms mi_123 110 (ga_cmp (fun x y => decide (x = y)) 138 113) := gs_cmp_eq (by decide +kernel : decode mi_123.2.1 110 = .ok (.if_icmp .eq 28, 3)) (by decide) rfl
theorem s_123_113 {K : gC} : gOk K g_Ms mi_123 113 (ga_iload 5 115) := gs_iload (by decide +kernel : decode mi_123.2.1 113 = .ok (.iload 5, 2)) rfl
theorem s_123_115 {K : gC} : gOk K g_Ms mi_123 115 (ga_push (.int (-1)) 116) := gs_iconst (by decide +kernel : decode mi_123.2.1 115 = .ok (.iconst (-1), 1)) (by decide) rfl
theorem s_123_116 {K : gC} : gOk K g_Ms mi_123 116 (ga_cmp (fun x y => decide (x = y)) 126 119) := gs_cmp_eq (by decide +kernel : decode mi_123.2.1 116 = .ok (.if_icmp .eq 10, 3)) (by decide) rfl
theorem s_123_119 {K : gC} : gOk K g_Ms mi_123 119 (ga_iload 10 121) := gs_iload (by decide +kernel : decode mi_123.2.1 119 = .ok (.iload 10, 2)) rfl
theorem s_123_121 {K : gC} : gOk K g_Ms mi_123 121 (ga_iload 5 123) := gs_iload (by decide +kernel : decode mi_123.2.1 121 = .ok (.iload 5, 2)) rfl
theorem s_123_123 {K : gC} : gOk K g_Ms mi_123 123 (ga_cmp (fun x y => decide (y ≤ x)) 138 126) := gs_cmp_ge (by decide +kernel : decode mi_123.2.1 123 = .ok (.if_icmp .ge 15, 3)) (by decide) rfl
theorem s_123_126 {K : gC} : gOk K g_Ms mi_123 126 (ga_iload 10 128) := gs_iload (by decide +kernel : decode mi_123.2.1 126 = .ok (.iload 10, 2)) rfl
theorem s_123_128 {K : gC} : gOk K g_Ms mi_123 128 (ga_istore 5 130) := gs_istore (by decide +kernel : decode mi_123.2.1 128 = .ok (.istore 5, 2)) rfl
theorem s_123_130 {K : gC} : gOk K g_Ms mi_123 130 (ga_iload 8 132) := gs_iload (by decide +kernel : decode mi_123.2.1 130 = .ok (.iload 8, 2)) rfl
theorem s_123_132 {K : gC} : gOk K g_Ms mi_123 132 (ga_istore 6 134) := gs_istore (by decide +kernel : decode mi_123.2.1 132 = .ok (.istore 6, 2)) rfl
theorem s_123_134 {K : gC} : gOk K g_Ms mi_123 134 (ga_iload 9 136) := gs_iload (by decide +kernel : decode mi_123.2.1 134 = .ok (.iload 9, 2)) rfl
theorem s_123_136 {K : gC} : gOk K g_Ms mi_123 136 (ga_istore 7 138) := gs_istore (by decide +kernel : decode mi_123.2.1 136 = .ok (.istore 7, 2)) rfl
theorem s_123_138 {K : gC} : gOk K g_Ms mi_123 138 (ga_iinc 9 1 141) := gs_iinc (by decide +kernel : decode mi_123.2.1 138 = .ok (.iinc 9 1, 3)) (by decide) rfl
theorem s_123_141 {K : gC} : gOk K g_Ms mi_123 141 (ga_goto 73) := gs_goto (by decide +kernel : decode mi_123.2.1 141 = .ok (.goto (-68), 3)) (by decide)
theorem s_123_144 {K : gC} : gOk K g_Ms mi_123 144 (ga_iinc 8 1 147) := gs_iinc (by decide +kernel : decode mi_123.2.1 144 = .ok (.iinc 8 1, 3)) (by decide) rfl
theorem s_123_147 {K : gC} : gOk K g_Ms mi_123 147 (ga_goto 58) := gs_goto (by decide +kernel : decode mi_123.2.1 147 = .ok (.goto (-89), 3)) (by decide)
theorem s_123_150 {K : gC} : gOk K g_Ms mi_123 150 (ga_iload 6 152) := gs_iload (by decide +kernel : decode mi_123.2.1 150 = .ok (.iload 6, 2)) rfl
theorem s_123_152 {K : gC} : gOk K g_Ms mi_123 152 (ga_push (.int (-1)) 153) := gs_iconst (by decide +kernel : decode mi_123.2.1 152 = .ok (.iconst (-1), 1)) (by decide) rfl
theorem s_123_153 {K : gC} : gOk K g_Ms mi_123 153 (ga_cmp (fun x y => decide (¬ x = y)) 160 156) := gs_cmp_ne (by decide +kernel : decode mi_123.2.1 153 = .ok (.if_icmp .ne 7, 3)) (by decide) rfl
theorem s_123_156 {K : gC} : gOk K g_Ms mi_123 156 (ga_push (.int (-1)) 157) := gs_iconst (by decide +kernel : decode mi_123.2.1 156 = .ok (.iconst (-1), 1)) (by decide) rfl
theorem s_123_157 {K : gC} : gOk K g_Ms mi_123 157 (ga_goto 183) := gs_goto (by decide +kernel : decode mi_123.2.1 157 = .ok (.goto 26, 3)) (by decide)
theorem s_123_160 {K : gC} : gOk K g_Ms mi_123 160 (ga_iload 4 162) := gs_iload (by decide +kernel : decode mi_123.2.1 160 = .ok (.iload 4, 2)) rfl
theorem s_123_162 {K : gC} : gOk K g_Ms mi_123 162 (ga_if (fun x => decide (¬ x = 0)) 170 165) := gs_if_ne (by decide +kernel : decode mi_123.2.1 162 = .ok (.ifCond .ne 8, 3)) (by decide) rfl
theorem s_123_165 {K : gC} : gOk K g_Ms mi_123 165 (ga_iload 5 167) := gs_iload (by decide +kernel : decode mi_123.2.1 165 = .ok (.iload 5, 2)) rfl
theorem s_123_167 {K : gC} : gOk K g_Ms mi_123 167 (ga_goto 183) := gs_goto (by decide +kernel : decode mi_123.2.1 167 = .ok (.goto 16, 3)) (by decide)
theorem s_123_170 {K : gC} : gOk K g_Ms mi_123 170 (ga_iload 4 172) := gs_iload (by decide +kernel : decode mi_123.2.1 170 = .ok (.iload 4, 2)) rfl
theorem s_123_172 {K : gC} : gOk K g_Ms mi_123 172 (ga_push (.int 1) 173) := gs_iconst (by decide +kernel : decode mi_123.2.1 172 = .ok (.iconst 1, 1)) (by decide) rfl
theorem s_123_173 {K : gC} : gOk K g_Ms mi_123 173 (ga_cmp (fun x y => decide (¬ x = y)) 181 176) := gs_cmp_ne (by decide +kernel : decode mi_123.2.1 173 = .ok (.if_icmp .ne 8, 3)) (by decide) rfl
theorem s_123_176 {K : gC} : gOk K g_Ms mi_123 176 (ga_iload 6 178) := gs_iload (by decide +kernel : decode mi_123.2.1 176 = .ok (.iload 6, 2)) rfl
theorem s_123_178 {K : gC} : gOk K g_Ms mi_123 178 (ga_goto 183) := gs_goto (by decide +kernel : decode mi_123.2.1 178 = .ok (.goto 5, 3)) (by decide)
theorem s_123_181 {K : gC} : gOk K g_Ms mi_123 181 (ga_iload 7 183) := gs_iload (by decide +kernel : decode mi_123.2.1 181 = .ok (.iload 7, 2)) rfl
theorem s_123_183 {K : gC} : gOk K g_Ms mi_123 183 (ga_iret) := gs_iret (by decide +kernel : decode mi_123.2.1 183 = .ok (.ireturn, 1)) rfl
theorem ok_123 {K : gC} : ∀ e ∈ t_123, gOk K g_Ms mi_123 e.1 e.2 := by
  unfold t_123
  simp only [List.forall_mem_cons, List.not_mem_nil, false_implies, implies_true, and_true]
  exact ⟨s_123_0, s_123_1, s_123_2, s_123_5, s_123_8, s_123_9, s_123_10, s_123_13, s_123_16, s_123_17, s_123_18, s_123_21, s_123_24, s_123_26, s_123_27, s_123_29, s_123_30, s_123_31, s_123_34, s_123_37, s_123_39, s_123_40, s_123_41, s_123_42, s_123_43, s_123_44, s_123_47, s_123_49, s_123_50, s_123_52, s_123_53, s_123_55, s_123_56, s_123_58, s_123_60, s_123_61, s_123_64, s_123_67, s_123_69, s_123_70, s_123_71, s_123_73, s_123_75, s_123_76, s_123_79, s_123_82, s_123_83, s_123_85, s_123_87, s_123_90, s_123_91, s_123_92, s_123_93, s_123_94, s_123_97, s_123_99, s_123_100, s_123_102, s_123_104, s_123_107, s_123_109, s_123_110, s_123_113, s_123_115, s_123_116, s_123_119, s_123_121, s_123_123, s_123_126, s_123_128, s_123_130, s_123_132, s_123_134, s_123_136, s_123_138, s_123_141, s_123_144, s_123_147, s_123_150, s_123_152, s_123_153, s_123_156, s_123_157, s_123_160, s_123_162, s_123_165, s_123_167, s_123_170, s_123_172, s_123_173, s_123_176, s_123_178, s_123_181, s_123_183⟩
theorem s_124_0 {K : gC} : gOk K g_Ms mi_124 0 (ga_push (.int 0) 1) := gs_iconst (by decide +kernel : decode mi_124.2.1 0 = .ok (.iconst 0, 1)) (by decide) rfl
theorem s_124_1 {K : gC} : gOk K g_Ms mi_124 1 (ga_istore 1 2) := gs_istore_n (by decide +kernel : decode mi_124.2.1 1 = .ok (.istore_n 1, 1)) rfl rfl
theorem s_124_2 {K : gC} : gOk K g_Ms mi_124 2 (ga_push (.int 0) 3) := gs_iconst (by decide +kernel : decode mi_124.2.1 2 = .ok (.iconst 0, 1)) (by decide) rfl
theorem s_124_3 {K : gC} : gOk K g_Ms mi_124 3 (ga_istore 2 4) := gs_istore_n (by decide +kernel : decode mi_124.2.1 3 = .ok (.istore_n 2, 1)) rfl rfl
theorem s_124_4 {K : gC} : gOk K g_Ms mi_124 4 (ga_iload 2 5) := gs_iload_n (by decide +kernel : decode mi_124.2.1 4 = .ok (.iload_n 2, 1)) rfl rfl
theorem s_124_5 {K : gC} : gOk K g_Ms mi_124 5 (ga_push (.int 10) 7) := gs_bipush (by decide +kernel : decode mi_124.2.1 5 = .ok (.bipush 10, 2)) (by decide) rfl
theorem s_124_7 {K : gC} : gOk K g_Ms mi_124 7 (ga_cmp (fun x y => decide (y ≤ x)) 24 10) := gs_cmp_ge (by decide +kernel : decode mi_124.2.1 7 = .ok (.if_icmp .ge 17, 3)) (by decide) rfl
theorem s_124_10 {K : gC} : gOk K g_Ms mi_124 10 (ga_iload 1 11) := gs_iload_n (by decide +kernel : decode mi_124.2.1 10 = .ok (.iload_n 1, 1)) rfl rfl
theorem s_124_11 {K : gC} : gOk K g_Ms mi_124 11 (ga_iload 0 12) := gs_iload_n (by decide +kernel : decode mi_124.2.1 11 = .ok (.iload_n 0, 1)) rfl rfl
theorem s_124_12 {K : gC} : gOk K g_Ms mi_124 12 (ga_iload 2 13) := gs_iload_n (by decide +kernel : decode mi_124.2.1 12 = .ok (.iload_n 2, 1)) rfl rfl
theorem s_124_13 {K : gC} : gOk K g_Ms mi_124 13 (ga_bin (fun x y => x >>> (y &&& 31)) 14) := gs_ishr (by decide +kernel : decode mi_124.2.1 13 = .ok (.ishr, 1)) rfl
theorem s_124_14 {K : gC} : gOk K g_Ms mi_124 14 (ga_push (.int 1) 15) := gs_iconst (by decide +kernel : decode mi_124.2.1 14 = .ok (.iconst 1, 1)) (by decide) rfl
theorem s_124_15 {K : gC} : gOk K g_Ms mi_124 15 (ga_bin (fun x y => x &&& y) 16) := gs_iand (by decide +kernel : decode mi_124.2.1 15 = .ok (.iand, 1)) rfl
theorem s_124_16 {K : gC} : gOk K g_Ms mi_124 16 (ga_bin (fun x y => x + y) 17) := gs_iadd (by decide +kernel : decode mi_124.2.1 16 = .ok (.iadd, 1)) rfl
theorem s_124_17 {K : gC} : gOk K g_Ms mi_124 17 (ga_istore 1 18) := gs_istore_n (by decide +kernel : decode mi_124.2.1 17 = .ok (.istore_n 1, 1)) rfl rfl
theorem s_124_18 {K : gC} : gOk K g_Ms mi_124 18 (ga_iinc 2 1 21) := gs_iinc (by decide +kernel : decode mi_124.2.1 18 = .ok (.iinc 2 1, 3)) (by decide) rfl
theorem s_124_21 {K : gC} : gOk K g_Ms mi_124 21 (ga_goto 4) := gs_goto (by decide +kernel : decode mi_124.2.1 21 = .ok (.goto (-17), 3)) (by decide)
theorem s_124_24 {K : gC} : gOk K g_Ms mi_124 24 (ga_iload 1 25) := gs_iload_n (by decide +kernel : decode mi_124.2.1 24 = .ok (.iload_n 1, 1)) rfl rfl
theorem s_124_25 {K : gC} : gOk K g_Ms mi_124 25 (ga_iret) := gs_iret (by decide +kernel : decode mi_124.2.1 25 = .ok (.ireturn, 1)) rfl
theorem ok_124 {K : gC} : ∀ e ∈ t_124, gOk K g_Ms mi_124 e.1 e.2 := by
  unfold t_124
  simp only [List.forall_mem_cons, List.not_mem_nil, false_implies, implies_true, and_true]
  exact ⟨s_124_0, s_124_1, s_124_2, s_124_3, s_124_4, s_124_5, s_124_7, s_124_10, s_124_11, s_124_12, s_124_13, s_124_14, s_124_15, s_124_16, s_124_17, s_124_18, s_124_21, s_124_24, s_124_25⟩
theorem s_125_0 {K : gC} : gOk K g_Ms mi_125 0 (ga_push (.int 0) 1) := gs_iconst (by decide +kernel : decode mi_125.2.1 0 = .ok (.iconst 0, 1)) (by decide) rfl
theorem s_125_1 {K : gC} : gOk K g_Ms mi_125 1 (ga_istore 3 2) := gs_istore_n (by decide +kernel : decode mi_125.2.1 1 = .ok (.istore_n 3, 1)) rfl rfl
theorem s_125_2 {K : gC} : gOk K g_Ms mi_125 2 (ga_push (.int 0) 3) := gs_iconst (by decide +kernel : decode mi_125.2.1 2 = .ok (.iconst 0, 1)) (by decide) rfl
theorem s_125_3 {K : gC} : gOk K g_Ms mi_125 3 (ga_istore 4 5) := gs_istore (by decide +kernel : decode mi_125.2.1 3 = .ok (.istore 4, 2)) rfl
theorem s_125_5 {K : gC} : gOk K g_Ms mi_125 5 (ga_iload 4 7) := gs_iload (by decide +kernel : decode mi_125.2.1 5 = .ok (.iload 4, 2)) rfl
theorem s_125_7 {K : gC} : gOk K g_Ms mi_125 7 (ga_aload 0 8) := gs_aload_n (by decide +kernel : decode mi_125.2.1 7 = .ok (.aload_n 0, 1)) rfl rfl
theorem s_125_8 {K : gC} : gOk K g_Ms mi_125 8 (ga_getI 7 0 11) := gs_getI gcls_7 (by decide) (by decide) gw_656 (by decide +kernel : decode mi_125.2.1 8 = .ok (.getfield 7, 3)) rfl
theorem s_125_11 {K : gC} : gOk K g_Ms mi_125 11 (ga_cmp (fun x y => decide (y ≤ x)) 88 14) := gs_cmp_ge (by decide +kernel : decode mi_125.2.1 11 = .ok (.if_icmp .ge 77, 3)) (by decide) rfl
theorem s_125_14 {K : gC} : gOk K g_Ms mi_125 14 (ga_aload 0 15) := gs_aload_n (by decide +kernel : decode mi_125.2.1 14 = .ok (.aload_n 0, 1)) rfl rfl
theorem s_125_15 {K : gC} : gOk K g_Ms mi_125 15 (ga_getR 7 1 18) := gs_getR gcls_7 (by decide) (by decide) gw_657 (by decide +kernel : decode mi_125.2.1 15 = .ok (.getfield 13, 3)) rfl
theorem s_125_18 {K : gC} : gOk K g_Ms mi_125 18 (ga_iload 4 20) := gs_iload (by decide +kernel : decode mi_125.2.1 18 = .ok (.iload 4, 2)) rfl
theorem s_125_20 {K : gC} : gOk K g_Ms mi_125 20 (ga_iald 21) := gs_iald (by decide +kernel : decode mi_125.2.1 20 = .ok (.iaload, 1)) rfl
theorem s_125_21 {K : gC} : gOk K g_Ms mi_125 21 (ga_iload 2 22) := gs_iload_n (by decide +kernel : decode mi_125.2.1 21 = .ok (.iload_n 2, 1)) rfl rfl
theorem s_125_22 {K : gC} : gOk K g_Ms mi_125 22 (ga_cmp (fun x y => decide (¬ x = y)) 82 25) := gs_cmp_ne (by decide +kernel : decode mi_125.2.1 22 = .ok (.if_icmp .ne 60, 3)) (by decide) rfl
theorem s_125_25 {K : gC} : gOk K g_Ms mi_125 25 (ga_aload 0 26) := gs_aload_n (by decide +kernel : decode mi_125.2.1 25 = .ok (.aload_n 0, 1)) rfl rfl
theorem s_125_26 {K : gC} : gOk K g_Ms mi_125 26 (ga_getR 7 1 29) := gs_getR gcls_7 (by decide) (by decide) gw_657 (by decide +kernel : decode mi_125.2.1 26 = .ok (.getfield 13, 3)) rfl
theorem s_125_29 {K : gC} : gOk K g_Ms mi_125 29 (ga_iload 2 30) := gs_iload_n (by decide +kernel : decode mi_125.2.1 29 = .ok (.iload_n 2, 1)) rfl rfl
theorem s_125_30 {K : gC} : gOk K g_Ms mi_125 30 (ga_iald 31) := gs_iald (by decide +kernel : decode mi_125.2.1 30 = .ok (.iaload, 1)) rfl
theorem s_125_31 {K : gC} : gOk K g_Ms mi_125 31 (ga_push (.int (-1)) 32) := gs_iconst (by decide +kernel : decode mi_125.2.1 31 = .ok (.iconst (-1), 1)) (by decide) rfl
theorem s_125_32 {K : gC} : gOk K g_Ms mi_125 32 (ga_cmp (fun x y => decide (x = y)) 82 35) := gs_cmp_eq (by decide +kernel : decode mi_125.2.1 32 = .ok (.if_icmp .eq 50, 3)) (by decide) rfl
theorem s_125_35 {K : gC} : gOk K g_Ms mi_125 35 (ga_aload 0 36) := gs_aload_n (by decide +kernel : decode mi_125.2.1 35 = .ok (.aload_n 0, 1)) rfl rfl
theorem s_125_36 {K : gC} : gOk K g_Ms mi_125 36 (ga_getR 7 1 39) := gs_getR gcls_7 (by decide) (by decide) gw_657 (by decide +kernel : decode mi_125.2.1 36 = .ok (.getfield 13, 3)) rfl
theorem s_125_39 {K : gC} : gOk K g_Ms mi_125 39 (ga_iload 2 40) := gs_iload_n (by decide +kernel : decode mi_125.2.1 39 = .ok (.iload_n 2, 1)) rfl rfl
theorem s_125_40 {K : gC} : gOk K g_Ms mi_125 40 (ga_iald 41) := gs_iald (by decide +kernel : decode mi_125.2.1 40 = .ok (.iaload, 1)) rfl
theorem s_125_41 {K : gC} : gOk K g_Ms mi_125 41 (ga_iload 4 43) := gs_iload (by decide +kernel : decode mi_125.2.1 41 = .ok (.iload 4, 2)) rfl
theorem s_125_43 {K : gC} : gOk K g_Ms mi_125 43 (ga_cmp (fun x y => decide (x = y)) 82 46) := gs_cmp_eq (by decide +kernel : decode mi_125.2.1 43 = .ok (.if_icmp .eq 39, 3)) (by decide) rfl
theorem s_125_46 {K : gC} : gOk K g_Ms mi_125 46 (ga_aload 0 47) := gs_aload_n (by decide +kernel : decode mi_125.2.1 46 = .ok (.aload_n 0, 1)) rfl rfl
theorem s_125_47 {K : gC} : gOk K g_Ms mi_125 47 (ga_getR 7 1 50) := gs_getR gcls_7 (by decide) (by decide) gw_657 (by decide +kernel : decode mi_125.2.1 47 = .ok (.getfield 13, 3)) rfl
theorem s_125_50 {K : gC} : gOk K g_Ms mi_125 50 (ga_iload 4 52) := gs_iload (by decide +kernel : decode mi_125.2.1 50 = .ok (.iload 4, 2)) rfl
theorem s_125_52 {K : gC} : gOk K g_Ms mi_125 52 (ga_aload 0 53) := gs_aload_n (by decide +kernel : decode mi_125.2.1 52 = .ok (.aload_n 0, 1)) rfl rfl
theorem s_125_53 {K : gC} : gOk K g_Ms mi_125 53 (ga_getR 7 1 56) := gs_getR gcls_7 (by decide) (by decide) gw_657 (by decide +kernel : decode mi_125.2.1 53 = .ok (.getfield 13, 3)) rfl
theorem s_125_56 {K : gC} : gOk K g_Ms mi_125 56 (ga_iload 2 57) := gs_iload_n (by decide +kernel : decode mi_125.2.1 56 = .ok (.iload_n 2, 1)) rfl rfl
theorem s_125_57 {K : gC} : gOk K g_Ms mi_125 57 (ga_iald 58) := gs_iald (by decide +kernel : decode mi_125.2.1 57 = .ok (.iaload, 1)) rfl
theorem s_125_58 {K : gC} : gOk K g_Ms mi_125 58 (ga_iast 59) := gs_iast (by decide +kernel : decode mi_125.2.1 58 = .ok (.iastore, 1)) rfl
theorem s_125_59 {K : gC} : gOk K g_Ms mi_125 59 (ga_aload 0 60) := gs_aload_n (by decide +kernel : decode mi_125.2.1 59 = .ok (.aload_n 0, 1)) rfl rfl
theorem s_125_60 {K : gC} : gOk K g_Ms mi_125 60 (ga_getR 7 2 63) := gs_getR gcls_7 (by decide) (by decide) gw_658 (by decide +kernel : decode mi_125.2.1 60 = .ok (.getfield 17, 3)) rfl
theorem s_125_63 {K : gC} : gOk K g_Ms mi_125 63 (ga_iload 4 65) := gs_iload (by decide +kernel : decode mi_125.2.1 63 = .ok (.iload 4, 2)) rfl
theorem s_125_65 {K : gC} : gOk K g_Ms mi_125 65 (ga_dup2 66) := gs_dup2 (by decide +kernel : decode mi_125.2.1 65 = .ok (.dup2, 1)) rfl
theorem s_125_66 {K : gC} : gOk K g_Ms mi_125 66 (ga_iald 67) := gs_iald (by decide +kernel : decode mi_125.2.1 66 = .ok (.iaload, 1)) rfl
theorem s_125_67 {K : gC} : gOk K g_Ms mi_125 67 (ga_aload 0 68) := gs_aload_n (by decide +kernel : decode mi_125.2.1 67 = .ok (.aload_n 0, 1)) rfl rfl
theorem s_125_68 {K : gC} : gOk K g_Ms mi_125 68 (ga_getR 7 2 71) := gs_getR gcls_7 (by decide) (by decide) gw_658 (by decide +kernel : decode mi_125.2.1 68 = .ok (.getfield 17, 3)) rfl
theorem s_125_71 {K : gC} : gOk K g_Ms mi_125 71 (ga_iload 2 72) := gs_iload_n (by decide +kernel : decode mi_125.2.1 71 = .ok (.iload_n 2, 1)) rfl rfl
theorem s_125_72 {K : gC} : gOk K g_Ms mi_125 72 (ga_iald 73) := gs_iald (by decide +kernel : decode mi_125.2.1 72 = .ok (.iaload, 1)) rfl
theorem s_125_73 {K : gC} : gOk K g_Ms mi_125 73 (ga_bin (fun x y => x + y) 74) := gs_iadd (by decide +kernel : decode mi_125.2.1 73 = .ok (.iadd, 1)) rfl
theorem s_125_74 {K : gC} : gOk K g_Ms mi_125 74 (ga_iast 75) := gs_iast (by decide +kernel : decode mi_125.2.1 74 = .ok (.iastore, 1)) rfl
theorem s_125_75 {K : gC} : gOk K g_Ms mi_125 75 (ga_iload 3 76) := gs_iload_n (by decide +kernel : decode mi_125.2.1 75 = .ok (.iload_n 3, 1)) rfl rfl
theorem s_125_76 {K : gC} : gOk K g_Ms mi_125 76 (ga_push (.int 1) 77) := gs_iconst (by decide +kernel : decode mi_125.2.1 76 = .ok (.iconst 1, 1)) (by decide) rfl
theorem s_125_77 {K : gC} : gOk K g_Ms mi_125 77 (ga_iload 4 79) := gs_iload (by decide +kernel : decode mi_125.2.1 77 = .ok (.iload 4, 2)) rfl
theorem s_125_79 {K : gC} : gOk K g_Ms mi_125 79 (ga_bin (fun x y => x <<< (y &&& 31)) 80) := gs_ishl (by decide +kernel : decode mi_125.2.1 79 = .ok (.ishl, 1)) rfl
theorem s_125_80 {K : gC} : gOk K g_Ms mi_125 80 (ga_bin (fun x y => x ||| y) 81) := gs_ior (by decide +kernel : decode mi_125.2.1 80 = .ok (.ior, 1)) rfl
theorem s_125_81 {K : gC} : gOk K g_Ms mi_125 81 (ga_istore 3 82) := gs_istore_n (by decide +kernel : decode mi_125.2.1 81 = .ok (.istore_n 3, 1)) rfl rfl
theorem s_125_82 {K : gC} : gOk K g_Ms mi_125 82 (ga_iinc 4 1 85) := gs_iinc (by decide +kernel : decode mi_125.2.1 82 = .ok (.iinc 4 1, 3)) (by decide) rfl
theorem s_125_85 {K : gC} : gOk K g_Ms mi_125 85 (ga_goto 5) := gs_goto (by decide +kernel : decode mi_125.2.1 85 = .ok (.goto (-80), 3)) (by decide)
theorem s_125_88 {K : gC} : gOk K g_Ms mi_125 88 (ga_aload 0 89) := gs_aload_n (by decide +kernel : decode mi_125.2.1 88 = .ok (.aload_n 0, 1)) rfl rfl
theorem s_125_89 {K : gC} : gOk K g_Ms mi_125 89 (ga_iload 1 90) := gs_iload_n (by decide +kernel : decode mi_125.2.1 89 = .ok (.iload_n 1, 1)) rfl rfl
theorem s_125_90 {K : gC} : gOk K g_Ms mi_125 90 (ga_callV 7 114 1 93) := gs_callV gcls_7 (gce_X7_layFirst (by decide) (by decide)) gw_891 gw_893 gw_31 (by decide +kernel : decode mi_125.2.1 90 = .ok (.invokevirtual 204, 3)) rfl
theorem s_125_93 {K : gC} : gOk K g_Ms mi_125 93 (ga_call 124 1 96) := gs_callS (gce_X7_bits (by decide) (by decide)) gw_927 gw_928 (by decide +kernel : decode mi_125.2.1 93 = .ok (.invokestatic 215, 3)) rfl
theorem s_125_96 {K : gC} : gOk K g_Ms mi_125 96 (ga_istore 4 98) := gs_istore (by decide +kernel : decode mi_125.2.1 96 = .ok (.istore 4, 2)) rfl
theorem s_125_98 {K : gC} : gOk K g_Ms mi_125 98 (ga_push (.int 0) 99) := gs_iconst (by decide +kernel : decode mi_125.2.1 98 = .ok (.iconst 0, 1)) (by decide) rfl
theorem s_125_99 {K : gC} : gOk K g_Ms mi_125 99 (ga_istore 5 101) := gs_istore (by decide +kernel : decode mi_125.2.1 99 = .ok (.istore 5, 2)) rfl
theorem s_125_101 {K : gC} : gOk K g_Ms mi_125 101 (ga_iload 5 103) := gs_iload (by decide +kernel : decode mi_125.2.1 101 = .ok (.iload 5, 2)) rfl
theorem s_125_103 {K : gC} : gOk K g_Ms mi_125 103 (ga_aload 0 104) := gs_aload_n (by decide +kernel : decode mi_125.2.1 103 = .ok (.aload_n 0, 1)) rfl rfl
theorem s_125_104 {K : gC} : gOk K g_Ms mi_125 104 (ga_getI 7 0 107) := gs_getI gcls_7 (by decide) (by decide) gw_656 (by decide +kernel : decode mi_125.2.1 104 = .ok (.getfield 7, 3)) rfl
theorem s_125_107 {K : gC} : gOk K g_Ms mi_125 107 (ga_cmp (fun x y => decide (y ≤ x)) 149 110) := gs_cmp_ge (by decide +kernel : decode mi_125.2.1 107 = .ok (.if_icmp .ge 42, 3)) (by decide) rfl
theorem s_125_110 {K : gC} : gOk K g_Ms mi_125 110 (ga_iload 3 111) := gs_iload_n (by decide +kernel : decode mi_125.2.1 110 = .ok (.iload_n 3, 1)) rfl rfl
theorem s_125_111 {K : gC} : gOk K g_Ms mi_125 111 (ga_iload 5 113) := gs_iload (by decide +kernel : decode mi_125.2.1 111 = .ok (.iload 5, 2)) rfl
theorem s_125_113 {K : gC} : gOk K g_Ms mi_125 113 (ga_call 84 2 116) := gs_callS (gce_X7_has (by decide) (by decide)) gw_847 gw_848 (by decide +kernel : decode mi_125.2.1 113 = .ok (.invokestatic 182, 3)) rfl
theorem s_125_116 {K : gC} : gOk K g_Ms mi_125 116 (ga_if (fun x => decide (x = 0)) 143 119) := gs_if_eq (by decide +kernel : decode mi_125.2.1 116 = .ok (.ifCond .eq 27, 3)) (by decide) rfl
theorem s_125_119 {K : gC} : gOk K g_Ms mi_125 119 (ga_aload 0 120) := gs_aload_n (by decide +kernel : decode mi_125.2.1 119 = .ok (.aload_n 0, 1)) rfl rfl
theorem s_125_120 {K : gC} : gOk K g_Ms mi_125 120 (ga_getR 7 1 123) := gs_getR gcls_7 (by decide) (by decide) gw_657 (by decide +kernel : decode mi_125.2.1 120 = .ok (.getfield 13, 3)) rfl
theorem s_125_123 {K : gC} : gOk K g_Ms mi_125 123 (ga_iload 5 125) := gs_iload (by decide +kernel : decode mi_125.2.1 123 = .ok (.iload 5, 2)) rfl
theorem s_125_125 {K : gC} : gOk K g_Ms mi_125 125 (ga_iload 2 126) := gs_iload_n (by decide +kernel : decode mi_125.2.1 125 = .ok (.iload_n 2, 1)) rfl rfl
theorem s_125_126 {K : gC} : gOk K g_Ms mi_125 126 (ga_iast 127) := gs_iast (by decide +kernel : decode mi_125.2.1 126 = .ok (.iastore, 1)) rfl
theorem s_125_127 {K : gC} : gOk K g_Ms mi_125 127 (ga_aload 0 128) := gs_aload_n (by decide +kernel : decode mi_125.2.1 127 = .ok (.aload_n 0, 1)) rfl rfl
theorem s_125_128 {K : gC} : gOk K g_Ms mi_125 128 (ga_getR 7 2 131) := gs_getR gcls_7 (by decide) (by decide) gw_658 (by decide +kernel : decode mi_125.2.1 128 = .ok (.getfield 17, 3)) rfl
theorem s_125_131 {K : gC} : gOk K g_Ms mi_125 131 (ga_iload 5 133) := gs_iload (by decide +kernel : decode mi_125.2.1 131 = .ok (.iload 5, 2)) rfl
theorem s_125_133 {K : gC} : gOk K g_Ms mi_125 133 (ga_dup2 134) := gs_dup2 (by decide +kernel : decode mi_125.2.1 133 = .ok (.dup2, 1)) rfl
theorem s_125_134 {K : gC} : gOk K g_Ms mi_125 134 (ga_iald 135) := gs_iald (by decide +kernel : decode mi_125.2.1 134 = .ok (.iaload, 1)) rfl
theorem s_125_135 {K : gC} : gOk K g_Ms mi_125 135 (ga_aload 0 136) := gs_aload_n (by decide +kernel : decode mi_125.2.1 135 = .ok (.aload_n 0, 1)) rfl rfl
theorem s_125_136 {K : gC} : gOk K g_Ms mi_125 136 (ga_getR 7 2 139) := gs_getR gcls_7 (by decide) (by decide) gw_658 (by decide +kernel : decode mi_125.2.1 136 = .ok (.getfield 17, 3)) rfl
theorem s_125_139 {K : gC} : gOk K g_Ms mi_125 139 (ga_iload 2 140) := gs_iload_n (by decide +kernel : decode mi_125.2.1 139 = .ok (.iload_n 2, 1)) rfl rfl
theorem s_125_140 {K : gC} : gOk K g_Ms mi_125 140 (ga_iald 141) := gs_iald (by decide +kernel : decode mi_125.2.1 140 = .ok (.iaload, 1)) rfl
theorem s_125_141 {K : gC} : gOk K g_Ms mi_125 141 (ga_bin (fun x y => x - y) 142) := gs_isub (by decide +kernel : decode mi_125.2.1 141 = .ok (.isub, 1)) rfl
theorem s_125_142 {K : gC} : gOk K g_Ms mi_125 142 (ga_iast 143) := gs_iast (by decide +kernel : decode mi_125.2.1 142 = .ok (.iastore, 1)) rfl
theorem s_125_143 {K : gC} : gOk K g_Ms mi_125 143 (ga_iinc 5 1 146) := gs_iinc (by decide +kernel : decode mi_125.2.1 143 = .ok (.iinc 5 1, 3)) (by decide) rfl
theorem s_125_146 {K : gC} : gOk K g_Ms mi_125 146 (ga_goto 101) := gs_goto (by decide +kernel : decode mi_125.2.1 146 = .ok (.goto (-45), 3)) (by decide)
theorem s_125_149 {K : gC} : gOk K g_Ms mi_125 149 (ga_iload 4 151) := gs_iload (by decide +kernel : decode mi_125.2.1 149 = .ok (.iload 4, 2)) rfl
theorem s_125_151 {K : gC} : gOk K g_Ms mi_125 151 (ga_iret) := gs_iret (by decide +kernel : decode mi_125.2.1 151 = .ok (.ireturn, 1)) rfl
theorem ok_125 {K : gC} : ∀ e ∈ t_125, gOk K g_Ms mi_125 e.1 e.2 := by
  unfold t_125
  simp only [List.forall_mem_cons, List.not_mem_nil, false_implies, implies_true, and_true]
  exact ⟨s_125_0, s_125_1, s_125_2, s_125_3, s_125_5, s_125_7, s_125_8, s_125_11, s_125_14, s_125_15, s_125_18, s_125_20, s_125_21, s_125_22, s_125_25, s_125_26, s_125_29, s_125_30, s_125_31, s_125_32, s_125_35, s_125_36, s_125_39, s_125_40, s_125_41, s_125_43, s_125_46, s_125_47, s_125_50, s_125_52, s_125_53, s_125_56, s_125_57, s_125_58, s_125_59, s_125_60, s_125_63, s_125_65, s_125_66, s_125_67, s_125_68, s_125_71, s_125_72, s_125_73, s_125_74, s_125_75, s_125_76, s_125_77, s_125_79, s_125_80, s_125_81, s_125_82, s_125_85, s_125_88, s_125_89, s_125_90, s_125_93, s_125_96, s_125_98, s_125_99, s_125_101, s_125_103, s_125_104, s_125_107, s_125_110, s_125_111, s_125_113, s_125_116, s_125_119, s_125_120, s_125_123, s_125_125, s_125_126, s_125_127, s_125_128, s_125_131, s_125_133, s_125_134, s_125_135, s_125_136, s_125_139, s_125_140, s_125_141, s_125_142, s_125_143, s_125_146, s_125_149, s_125_151⟩
theorem s_126_0 {K : gC} : gOk K g_Ms mi_126 0 (ga_aload 0 1) := gs_aload_n (by decide +kernel : decode mi_126.2.1 0 = .ok (.aload_n 0, 1)) rfl rfl
theorem s_126_1 {K : gC} : gOk K g_Ms mi_126 1 (ga_iload 1 2) := gs_iload_n (by decide +kernel : decode mi_126.2.1 1 = .ok (.iload_n 1, 1)) rfl rfl
theorem s_126_2 {K : gC} : gOk K g_Ms mi_126 2 (ga_callV 7 85 1 5) := gs_callV gcls_7 (gce_X7_isGong (by decide) (by decide)) gw_819 gw_821 gw_23 (by decide +kernel : decode mi_126.2.1 2 = .ok (.invokevirtual 172, 3)) rfl
theorem s_126_5 {K : gC} : gOk K g_Ms mi_126 5 (ga_if (fun x => decide (¬ x = 0)) 11 8) := gs_if_ne (by decide +kernel : decode mi_126.2.1 5 = .ok (.ifCond .ne 6, 3)) (by decide) rfl
theorem s_126_8 {K : gC} : gOk K g_Ms mi_126 8 (ga_push (.int (-2)) 10) := gs_bipush (by decide +kernel : decode mi_126.2.1 8 = .ok (.bipush (-2), 2)) (by decide) rfl
theorem s_126_10 {K : gC} : gOk K g_Ms mi_126 10 (ga_iret) := gs_iret (by decide +kernel : decode mi_126.2.1 10 = .ok (.ireturn, 1)) rfl
theorem s_126_11 {K : gC} : gOk K g_Ms mi_126 11 (ga_iload 2 12) := gs_iload_n (by decide +kernel : decode mi_126.2.1 11 = .ok (.iload_n 2, 1)) rfl rfl
theorem s_126_12 {K : gC} : gOk K g_Ms mi_126 12 (ga_push (.int 0) 13) := gs_iconst (by decide +kernel : decode mi_126.2.1 12 = .ok (.iconst 0, 1)) (by decide) rfl
theorem s_126_13 {K : gC} : gOk K g_Ms mi_126 13 (ga_push (.int 1) 14) := gs_iconst (by decide +kernel : decode mi_126.2.1 13 = .ok (.iconst 1, 1)) (by decide) rfl
theorem s_126_14 {K : gC} : gOk K g_Ms mi_126 14 (ga_call 83 3 17) := gs_callS (gce_X7_in (by decide) (by decide)) gw_751 gw_752 (by decide +kernel : decode mi_126.2.1 14 = .ok (.invokestatic 65, 3)) rfl
theorem s_126_17 {K : gC} : gOk K g_Ms mi_126 17 (ga_if (fun x => decide (¬ x = 0)) 23 20) := gs_if_ne (by decide +kernel : decode mi_126.2.1 17 = .ok (.ifCond .ne 6, 3)) (by decide) rfl
theorem s_126_20 {K : gC} : gOk K g_Ms mi_126 20 (ga_push (.int (-3)) 22) := gs_bipush (by decide +kernel : decode mi_126.2.1 20 = .ok (.bipush (-3), 2)) (by decide) rfl
theorem s_126_22 {K : gC} : gOk K g_Ms mi_126 22 (ga_iret) := gs_iret (by decide +kernel : decode mi_126.2.1 22 = .ok (.ireturn, 1)) rfl
theorem s_126_23 {K : gC} : gOk K g_Ms mi_126 23 (ga_aload 0 24) := gs_aload_n (by decide +kernel : decode mi_126.2.1 23 = .ok (.aload_n 0, 1)) rfl rfl
theorem s_126_24 {K : gC} : gOk K g_Ms mi_126 24 (ga_iload 1 25) := gs_iload_n (by decide +kernel : decode mi_126.2.1 24 = .ok (.iload_n 1, 1)) rfl rfl
theorem s_126_25 {K : gC} : gOk K g_Ms mi_126 25 (ga_callV 7 114 1 28) := gs_callV gcls_7 (gce_X7_layFirst (by decide) (by decide)) gw_891 gw_893 gw_31 (by decide +kernel : decode mi_126.2.1 25 = .ok (.invokevirtual 204, 3)) rfl
theorem s_126_28 {K : gC} : gOk K g_Ms mi_126 28 (ga_call 124 1 31) := gs_callS (gce_X7_bits (by decide) (by decide)) gw_927 gw_928 (by decide +kernel : decode mi_126.2.1 28 = .ok (.invokestatic 215, 3)) rfl
theorem s_126_31 {K : gC} : gOk K g_Ms mi_126 31 (ga_istore 3 32) := gs_istore_n (by decide +kernel : decode mi_126.2.1 31 = .ok (.istore_n 3, 1)) rfl rfl
theorem s_126_32 {K : gC} : gOk K g_Ms mi_126 32 (ga_push (.int (-1)) 33) := gs_iconst (by decide +kernel : decode mi_126.2.1 32 = .ok (.iconst (-1), 1)) (by decide) rfl
theorem s_126_33 {K : gC} : gOk K g_Ms mi_126 33 (ga_istore 4 35) := gs_istore (by decide +kernel : decode mi_126.2.1 33 = .ok (.istore 4, 2)) rfl
theorem s_126_35 {K : gC} : gOk K g_Ms mi_126 35 (ga_push (.int 0) 36) := gs_iconst (by decide +kernel : decode mi_126.2.1 35 = .ok (.iconst 0, 1)) (by decide) rfl
theorem s_126_36 {K : gC} : gOk K g_Ms mi_126 36 (ga_istore 5 38) := gs_istore (by decide +kernel : decode mi_126.2.1 36 = .ok (.istore 5, 2)) rfl
theorem s_126_38 {K : gC} : gOk K g_Ms mi_126 38 (ga_iload 5 40) := gs_iload (by decide +kernel : decode mi_126.2.1 38 = .ok (.iload 5, 2)) rfl
theorem s_126_40 {K : gC} : gOk K g_Ms mi_126 40 (ga_aload 0 41) := gs_aload_n (by decide +kernel : decode mi_126.2.1 40 = .ok (.aload_n 0, 1)) rfl rfl
theorem s_126_41 {K : gC} : gOk K g_Ms mi_126 41 (ga_getI 7 0 44) := gs_getI gcls_7 (by decide) (by decide) gw_656 (by decide +kernel : decode mi_126.2.1 41 = .ok (.getfield 7, 3)) rfl
theorem s_126_44 {K : gC} : gOk K g_Ms mi_126 44 (ga_cmp (fun x y => decide (y ≤ x)) 105 47) := gs_cmp_ge (by decide +kernel : decode mi_126.2.1 44 = .ok (.if_icmp .ge 61, 3)) (by decide) rfl
theorem s_126_47 {K : gC} : gOk K g_Ms mi_126 47 (ga_aload 0 48) := gs_aload_n (by decide +kernel : decode mi_126.2.1 47 = .ok (.aload_n 0, 1)) rfl rfl
theorem s_126_48 {K : gC} : gOk K g_Ms mi_126 48 (ga_getR 7 3 51) := gs_getR gcls_7 (by decide) (by decide) gw_659 (by decide +kernel : decode mi_126.2.1 48 = .ok (.getfield 20, 3)) rfl
theorem s_126_51 {K : gC} : gOk K g_Ms mi_126 51 (ga_iload 5 53) := gs_iload (by decide +kernel : decode mi_126.2.1 51 = .ok (.iload 5, 2)) rfl
theorem s_126_53 {K : gC} : gOk K g_Ms mi_126 53 (ga_iald 54) := gs_iald (by decide +kernel : decode mi_126.2.1 53 = .ok (.iaload, 1)) rfl
theorem s_126_54 {K : gC} : gOk K g_Ms mi_126 54 (ga_push (.int 1) 55) := gs_iconst (by decide +kernel : decode mi_126.2.1 54 = .ok (.iconst 1, 1)) (by decide) rfl
theorem s_126_55 {K : gC} : gOk K g_Ms mi_126 55 (ga_cmp (fun x y => decide (¬ x = y)) 68 58) := gs_cmp_ne (by decide +kernel : decode mi_126.2.1 55 = .ok (.if_icmp .ne 13, 3)) (by decide) rfl
theorem s_126_58 {K : gC} : gOk K g_Ms mi_126 58 (ga_aload 0 59) := gs_aload_n (by decide +kernel : decode mi_126.2.1 58 = .ok (.aload_n 0, 1)) rfl rfl
theorem s_126_59 {K : gC} : gOk K g_Ms mi_126 59 (ga_iload 1 60) := gs_iload_n (by decide +kernel : decode mi_126.2.1 59 = .ok (.iload_n 1, 1)) rfl rfl
theorem s_126_60 {K : gC} : gOk K g_Ms mi_126 60 (ga_iload 5 62) := gs_iload (by decide +kernel : decode mi_126.2.1 60 = .ok (.iload 5, 2)) rfl
theorem s_126_62 {K : gC} : gOk K g_Ms mi_126 62 (ga_callV 7 125 2 65) := gs_callV gcls_7 (gce_X7_without (by decide) (by decide)) gw_930 gw_932 gw_34 (by decide +kernel : decode mi_126.2.1 62 = .ok (.invokevirtual 218, 3)) rfl
theorem s_126_65 {K : gC} : gOk K g_Ms mi_126 65 (ga_goto 69) := gs_goto (by decide +kernel : decode mi_126.2.1 65 = .ok (.goto 4, 3)) (by decide)
theorem s_126_68 {K : gC} : gOk K g_Ms mi_126 68 (ga_push (.int 0) 69) := gs_iconst (by decide +kernel : decode mi_126.2.1 68 = .ok (.iconst 0, 1)) (by decide) rfl
theorem s_126_69 {K : gC} : gOk K g_Ms mi_126 69 (ga_istore 6 71) := gs_istore (by decide +kernel : decode mi_126.2.1 69 = .ok (.istore 6, 2)) rfl
theorem s_126_71 {K : gC} : gOk K g_Ms mi_126 71 (ga_iload 6 73) := gs_iload (by decide +kernel : decode mi_126.2.1 71 = .ok (.iload 6, 2)) rfl
theorem s_126_73 {K : gC} : gOk K g_Ms mi_126 73 (ga_iload 3 74) := gs_iload_n (by decide +kernel : decode mi_126.2.1 73 = .ok (.iload_n 3, 1)) rfl rfl
theorem s_126_74 {K : gC} : gOk K g_Ms mi_126 74 (ga_cmp (fun x y => decide (x ≤ y)) 82 77) := gs_cmp_le (by decide +kernel : decode mi_126.2.1 74 = .ok (.if_icmp .le 8, 3)) (by decide) rfl
theorem s_126_77 {K : gC} : gOk K g_Ms mi_126 77 (ga_iload 5 79) := gs_iload (by decide +kernel : decode mi_126.2.1 77 = .ok (.iload 5, 2)) rfl
theorem s_126_79 {K : gC} : gOk K g_Ms mi_126 79 (ga_goto 84) := gs_goto (by decide +kernel : decode mi_126.2.1 79 = .ok (.goto 5, 3)) (by decide)
theorem s_126_82 {K : gC} : gOk K g_Ms mi_126 82 (ga_iload 4 84) := gs_iload (by decide +kernel : decode mi_126.2.1 82 = .ok (.iload 4, 2)) rfl
theorem s_126_84 {K : gC} : gOk K g_Ms mi_126 84 (ga_istore 4 86) := gs_istore (by decide +kernel : decode mi_126.2.1 84 = .ok (.istore 4, 2)) rfl
theorem s_126_86 {K : gC} : gOk K g_Ms mi_126 86 (ga_iload 6 88) := gs_iload (by decide +kernel : decode mi_126.2.1 86 = .ok (.iload 6, 2)) rfl
theorem s_126_88 {K : gC} : gOk K g_Ms mi_126 88 (ga_iload 3 89) := gs_iload_n (by decide +kernel : decode mi_126.2.1 88 = .ok (.iload_n 3, 1)) rfl rfl
theorem s_126_89 {K : gC} : gOk K g_Ms mi_126 89 (ga_cmp (fun x y => decide (x ≤ y)) 97 92) := gs_cmp_le (by decide +kernel : decode mi_126.2.1 89 = .ok (.if_icmp .le 8, 3)) (by decide) rfl
theorem s_126_92 {K : gC} : gOk K g_Ms mi_126 92 (ga_iload 6 94) := gs_iload (by decide +kernel : decode mi_126.2.1 92 = .ok (.iload 6, 2)) rfl
theorem s_126_94 {K : gC} : gOk K g_Ms mi_126 94 (ga_goto 98) := gs_goto (by decide +kernel : decode mi_126.2.1 94 = .ok (.goto 4, 3)) (by decide)
theorem s_126_97 {K : gC} : gOk K g_Ms mi_126 97 (ga_iload 3 98) := gs_iload_n (by decide +kernel : decode mi_126.2.1 97 = .ok (.iload_n 3, 1)) rfl rfl
theorem s_126_98 {K : gC} : gOk K g_Ms mi_126 98 (ga_istore 3 99) := gs_istore_n (by decide +kernel : decode mi_126.2.1 98 = .ok (.istore_n 3, 1)) rfl rfl
theorem s_126_99 {K : gC} : gOk K g_Ms mi_126 99 (ga_iinc 5 1 102) := gs_iinc (by decide +kernel : decode mi_126.2.1 99 = .ok (.iinc 5 1, 3)) (by decide) rfl
theorem s_126_102 {K : gC} : gOk K g_Ms mi_126 102 (ga_goto 38) := gs_goto (by decide +kernel : decode mi_126.2.1 102 = .ok (.goto (-64), 3)) (by decide)
theorem s_126_105 {K : gC} : gOk K g_Ms mi_126 105 (ga_iload 4 107) := gs_iload (by decide +kernel : decode mi_126.2.1 105 = .ok (.iload 4, 2)) rfl
theorem s_126_107 {K : gC} : gOk K g_Ms mi_126 107 (ga_push (.int (-1)) 108) := gs_iconst (by decide +kernel : decode mi_126.2.1 107 = .ok (.iconst (-1), 1)) (by decide) rfl
theorem s_126_108 {K : gC} : gOk K g_Ms mi_126 108 (ga_cmp (fun x y => decide (x = y)) 115 111) := gs_cmp_eq (by decide +kernel : decode mi_126.2.1 108 = .ok (.if_icmp .eq 7, 3)) (by decide) rfl
theorem s_126_111 {K : gC} : gOk K g_Ms mi_126 111 (ga_iload 2 112) := gs_iload_n (by decide +kernel : decode mi_126.2.1 111 = .ok (.iload_n 2, 1)) rfl rfl
theorem s_126_112 {K : gC} : gOk K g_Ms mi_126 112 (ga_if (fun x => decide (¬ x = 0)) 120 115) := gs_if_ne (by decide +kernel : decode mi_126.2.1 112 = .ok (.ifCond .ne 8, 3)) (by decide) rfl
theorem s_126_115 {K : gC} : gOk K g_Ms mi_126 115 (ga_iload 4 117) := gs_iload (by decide +kernel : decode mi_126.2.1 115 = .ok (.iload 4, 2)) rfl
theorem s_126_117 {K : gC} : gOk K g_Ms mi_126 117 (ga_goto 121) := gs_goto (by decide +kernel : decode mi_126.2.1 117 = .ok (.goto 4, 3)) (by decide)
theorem s_126_120 {K : gC} : gOk K g_Ms mi_126 120 (ga_iload 3 121) := gs_iload_n (by decide +kernel : decode mi_126.2.1 120 = .ok (.iload_n 3, 1)) rfl rfl
theorem s_126_121 {K : gC} : gOk K g_Ms mi_126 121 (ga_iret) := gs_iret (by decide +kernel : decode mi_126.2.1 121 = .ok (.ireturn, 1)) rfl
theorem ok_126 {K : gC} : ∀ e ∈ t_126, gOk K g_Ms mi_126 e.1 e.2 := by
  unfold t_126
  simp only [List.forall_mem_cons, List.not_mem_nil, false_implies, implies_true, and_true]
  exact ⟨s_126_0, s_126_1, s_126_2, s_126_5, s_126_8, s_126_10, s_126_11, s_126_12, s_126_13, s_126_14, s_126_17, s_126_20, s_126_22, s_126_23, s_126_24, s_126_25, s_126_28, s_126_31, s_126_32, s_126_33, s_126_35, s_126_36, s_126_38, s_126_40, s_126_41, s_126_44, s_126_47, s_126_48, s_126_51, s_126_53, s_126_54, s_126_55, s_126_58, s_126_59, s_126_60, s_126_62, s_126_65, s_126_68, s_126_69, s_126_71, s_126_73, s_126_74, s_126_77, s_126_79, s_126_82, s_126_84, s_126_86, s_126_88, s_126_89, s_126_92, s_126_94, s_126_97, s_126_98, s_126_99, s_126_102, s_126_105, s_126_107, s_126_108, s_126_111, s_126_112, s_126_115, s_126_117, s_126_120, s_126_121⟩
theorem s_127_0 {K : gC} : gOk K g_Ms mi_127 0 (ga_aload 0 1) := gs_aload_n (by decide +kernel : decode mi_127.2.1 0 = .ok (.aload_n 0, 1)) rfl rfl
theorem s_127_1 {K : gC} : gOk K g_Ms mi_127 1 (ga_iload 1 2) := gs_iload_n (by decide +kernel : decode mi_127.2.1 1 = .ok (.iload_n 1, 1)) rfl rfl
theorem s_127_2 {K : gC} : gOk K g_Ms mi_127 2 (ga_callV 7 85 1 5) := gs_callV gcls_7 (gce_X7_isGong (by decide) (by decide)) gw_819 gw_821 gw_23 (by decide +kernel : decode mi_127.2.1 2 = .ok (.invokevirtual 172, 3)) rfl
theorem s_127_5 {K : gC} : gOk K g_Ms mi_127 5 (ga_if (fun x => decide (x = 0)) 16 8) := gs_if_eq (by decide +kernel : decode mi_127.2.1 5 = .ok (.ifCond .eq 11, 3)) (by decide) rfl
theorem s_127_8 {K : gC} : gOk K g_Ms mi_127 8 (ga_aload 0 9) := gs_aload_n (by decide +kernel : decode mi_127.2.1 8 = .ok (.aload_n 0, 1)) rfl rfl
theorem s_127_9 {K : gC} : gOk K g_Ms mi_127 9 (ga_iload 2 10) := gs_iload_n (by decide +kernel : decode mi_127.2.1 9 = .ok (.iload_n 2, 1)) rfl rfl
theorem s_127_10 {K : gC} : gOk K g_Ms mi_127 10 (ga_callV 7 85 1 13) := gs_callV gcls_7 (gce_X7_isGong (by decide) (by decide)) gw_819 gw_821 gw_23 (by decide +kernel : decode mi_127.2.1 10 = .ok (.invokevirtual 172, 3)) rfl
theorem s_127_13 {K : gC} : gOk K g_Ms mi_127 13 (ga_if (fun x => decide (¬ x = 0)) 19 16) := gs_if_ne (by decide +kernel : decode mi_127.2.1 13 = .ok (.ifCond .ne 6, 3)) (by decide) rfl
theorem s_127_16 {K : gC} : gOk K g_Ms mi_127 16 (ga_push (.int (-2)) 18) := gs_bipush (by decide +kernel : decode mi_127.2.1 16 = .ok (.bipush (-2), 2)) (by decide) rfl
theorem s_127_18 {K : gC} : gOk K g_Ms mi_127 18 (ga_iret) := gs_iret (by decide +kernel : decode mi_127.2.1 18 = .ok (.ireturn, 1)) rfl
theorem s_127_19 {K : gC} : gOk K g_Ms mi_127 19 (ga_iload 3 20) := gs_iload_n (by decide +kernel : decode mi_127.2.1 19 = .ok (.iload_n 3, 1)) rfl rfl
theorem s_127_20 {K : gC} : gOk K g_Ms mi_127 20 (ga_push (.int 0) 21) := gs_iconst (by decide +kernel : decode mi_127.2.1 20 = .ok (.iconst 0, 1)) (by decide) rfl
theorem s_127_21 {K : gC} : gOk K g_Ms mi_127 21 (ga_push (.int 10) 23) := gs_bipush (by decide +kernel : decode mi_127.2.1 21 = .ok (.bipush 10, 2)) (by decide) rfl
theorem s_127_23 {K : gC} : gOk K g_Ms mi_127 23 (ga_call 83 3 26) := gs_callS (gce_X7_in (by decide) (by decide)) gw_751 gw_752 (by decide +kernel : decode mi_127.2.1 23 = .ok (.invokestatic 65, 3)) rfl
theorem s_127_26 {K : gC} : gOk K g_Ms mi_127 26 (ga_if (fun x => decide (x = 0)) 39 29) := gs_if_eq (by decide +kernel : decode mi_127.2.1 26 = .ok (.ifCond .eq 13, 3)) (by decide) rfl
theorem s_127_29 {K : gC} : gOk K g_Ms mi_127 29 (ga_iload 4 31) := gs_iload (by decide +kernel : decode mi_127.2.1 29 = .ok (.iload 4, 2)) rfl
theorem s_127_31 {K : gC} : gOk K g_Ms mi_127 31 (ga_push (.int 0) 32) := gs_iconst (by decide +kernel : decode mi_127.2.1 31 = .ok (.iconst 0, 1)) (by decide) rfl
theorem s_127_32 {K : gC} : gOk K g_Ms mi_127 32 (ga_push (.int 1) 33) := gs_iconst (by decide +kernel : decode mi_127.2.1 32 = .ok (.iconst 1, 1)) (by decide) rfl
theorem s_127_33 {K : gC} : gOk K g_Ms mi_127 33 (ga_call 83 3 36) := gs_callS (gce_X7_in (by decide) (by decide)) gw_751 gw_752 (by decide +kernel : decode mi_127.2.1 33 = .ok (.invokestatic 65, 3)) rfl
theorem s_127_36 {K : gC} : gOk K g_Ms mi_127 36 (ga_if (fun x => decide (¬ x = 0)) 42 39) := gs_if_ne (by decide +kernel : decode mi_127.2.1 36 = .ok (.ifCond .ne 6, 3)) (by decide) rfl
theorem s_127_39 {K : gC} : gOk K g_Ms mi_127 39 (ga_push (.int (-3)) 41) := gs_bipush (by decide +kernel : decode mi_127.2.1 39 = .ok (.bipush (-3), 2)) (by decide) rfl
theorem s_127_41 {K : gC} : gOk K g_Ms mi_127 41 (ga_iret) := gs_iret (by decide +kernel : decode mi_127.2.1 41 = .ok (.ireturn, 1)) rfl
theorem s_127_42 {K : gC} : gOk K g_Ms mi_127 42 (ga_aload 0 43) := gs_aload_n (by decide +kernel : decode mi_127.2.1 42 = .ok (.aload_n 0, 1)) rfl rfl
theorem s_127_43 {K : gC} : gOk K g_Ms mi_127 43 (ga_iload 1 44) := gs_iload_n (by decide +kernel : decode mi_127.2.1 43 = .ok (.iload_n 1, 1)) rfl rfl
theorem s_127_44 {K : gC} : gOk K g_Ms mi_127 44 (ga_iload 2 45) := gs_iload_n (by decide +kernel : decode mi_127.2.1 44 = .ok (.iload_n 2, 1)) rfl rfl
theorem s_127_45 {K : gC} : gOk K g_Ms mi_127 45 (ga_callV 7 113 2 48) := gs_callV gcls_7 (gce_X7_firstOf (by decide) (by decide)) gw_875 gw_877 gw_28 (by decide +kernel : decode mi_127.2.1 45 = .ok (.invokevirtual 200, 3)) rfl
theorem s_127_48 {K : gC} : gOk K g_Ms mi_127 48 (ga_push (.int (-1)) 49) := gs_iconst (by decide +kernel : decode mi_127.2.1 48 = .ok (.iconst (-1), 1)) (by decide) rfl
theorem s_127_49 {K : gC} : gOk K g_Ms mi_127 49 (ga_cmp (fun x y => decide (¬ x = y)) 55 52) := gs_cmp_ne (by decide +kernel : decode mi_127.2.1 49 = .ok (.if_icmp .ne 6, 3)) (by decide) rfl
theorem s_127_52 {K : gC} : gOk K g_Ms mi_127 52 (ga_iload 4 54) := gs_iload (by decide +kernel : decode mi_127.2.1 52 = .ok (.iload 4, 2)) rfl
theorem s_127_54 {K : gC} : gOk K g_Ms mi_127 54 (ga_iret) := gs_iret (by decide +kernel : decode mi_127.2.1 54 = .ok (.ireturn, 1)) rfl
theorem s_127_55 {K : gC} : gOk K g_Ms mi_127 55 (ga_push (.int 1) 56) := gs_iconst (by decide +kernel : decode mi_127.2.1 55 = .ok (.iconst 1, 1)) (by decide) rfl
theorem s_127_56 {K : gC} : gOk K g_Ms mi_127 56 (ga_istore 5 58) := gs_istore (by decide +kernel : decode mi_127.2.1 56 = .ok (.istore 5, 2)) rfl
theorem s_127_58 {K : gC} : gOk K g_Ms mi_127 58 (ga_push (.int 1) 59) := gs_iconst (by decide +kernel : decode mi_127.2.1 58 = .ok (.iconst 1, 1)) (by decide) rfl
theorem s_127_59 {K : gC} : gOk K g_Ms mi_127 59 (ga_istore 6 61) := gs_istore (by decide +kernel : decode mi_127.2.1 59 = .ok (.istore 6, 2)) rfl
theorem s_127_61 {K : gC} : gOk K g_Ms mi_127 61 (ga_iload 2 62) := gs_iload_n (by decide +kernel : decode mi_127.2.1 61 = .ok (.iload_n 2, 1)) rfl rfl
theorem s_127_62 {K : gC} : gOk K g_Ms mi_127 62 (ga_istore 7 64) := gs_istore (by decide +kernel : decode mi_127.2.1 62 = .ok (.istore 7, 2)) rfl
theorem s_127_64 {K : gC} : gOk K g_Ms mi_127 64 (ga_iload 7 66) := gs_iload (by decide +kernel : decode mi_127.2.1 64 = .ok (.iload 7, 2)) rfl
theorem s_127_66 {K : gC} : gOk K g_Ms mi_127 66 (ga_iload 1 67) := gs_iload_n (by decide +kernel : decode mi_127.2.1 66 = .ok (.iload_n 1, 1)) rfl rfl
theorem s_127_67 {K : gC} : gOk K g_Ms mi_127 67 (ga_cmp (fun x y => decide (x = y)) 98 70) := gs_cmp_eq (by decide +kernel : decode mi_127.2.1 67 = .ok (.if_icmp .eq 31, 3)) (by decide) rfl
theorem s_127_70 {K : gC} : gOk K g_Ms mi_127 70 (ga_iload 5 72) := gs_iload (by decide +kernel : decode mi_127.2.1 70 = .ok (.iload 5, 2)) rfl
theorem s_127_72 {K : gC} : gOk K g_Ms mi_127 72 (ga_push (.int 10) 74) := gs_bipush (by decide +kernel : decode mi_127.2.1 72 = .ok (.bipush 10, 2)) (by decide) rfl
theorem s_127_74 {K : gC} : gOk K g_Ms mi_127 74 (ga_iload 3 75) := gs_iload_n (by decide +kernel : decode mi_127.2.1 74 = .ok (.iload_n 3, 1)) rfl rfl
theorem s_127_75 {K : gC} : gOk K g_Ms mi_127 75 (ga_bin (fun x y => x - y) 76) := gs_isub (by decide +kernel : decode mi_127.2.1 75 = .ok (.isub, 1)) rfl
theorem s_127_76 {K : gC} : gOk K g_Ms mi_127 76 (ga_bin (fun x y => x * y) 77) := gs_imul (by decide +kernel : decode mi_127.2.1 76 = .ok (.imul, 1)) rfl
theorem s_127_77 {K : gC} : gOk K g_Ms mi_127 77 (ga_istore 5 79) := gs_istore (by decide +kernel : decode mi_127.2.1 77 = .ok (.istore 5, 2)) rfl
theorem s_127_79 {K : gC} : gOk K g_Ms mi_127 79 (ga_iload 6 81) := gs_iload (by decide +kernel : decode mi_127.2.1 79 = .ok (.iload 6, 2)) rfl
theorem s_127_81 {K : gC} : gOk K g_Ms mi_127 81 (ga_push (.int 10) 83) := gs_bipush (by decide +kernel : decode mi_127.2.1 81 = .ok (.bipush 10, 2)) (by decide) rfl
theorem s_127_83 {K : gC} : gOk K g_Ms mi_127 83 (ga_bin (fun x y => x * y) 84) := gs_imul (by decide +kernel : decode mi_127.2.1 83 = .ok (.imul, 1)) rfl
theorem s_127_84 {K : gC} : gOk K g_Ms mi_127 84 (ga_istore 6 86) := gs_istore (by decide +kernel : decode mi_127.2.1 84 = .ok (.istore 6, 2)) rfl
theorem s_127_86 {K : gC} : gOk K g_Ms mi_127 86 (ga_aload 0 87) := gs_aload_n (by decide +kernel : decode mi_127.2.1 86 = .ok (.aload_n 0, 1)) rfl rfl
theorem s_127_87 {K : gC} : gOk K g_Ms mi_127 87 (ga_getR 7 1 90) := gs_getR gcls_7 (by decide) (by decide) gw_657 (by decide +kernel : decode mi_127.2.1 87 = .ok (.getfield 13, 3)) rfl
theorem s_127_90 {K : gC} : gOk K g_Ms mi_127 90 (ga_iload 7 92) := gs_iload (by decide +kernel : decode mi_127.2.1 90 = .ok (.iload 7, 2)) rfl
theorem s_127_92 {K : gC} : gOk K g_Ms mi_127 92 (ga_iald 93) := gs_iald (by decide +kernel : decode mi_127.2.1 92 = .ok (.iaload, 1)) rfl
theorem s_127_93 {K : gC} : gOk K g_Ms mi_127 93 (ga_istore 7 95) := gs_istore (by decide +kernel : decode mi_127.2.1 93 = .ok (.istore 7, 2)) rfl
theorem s_127_95 {K : gC} : gOk K g_Ms mi_127 95 (ga_goto 64) := gs_goto (by decide +kernel : decode mi_127.2.1 95 = .ok (.goto (-31), 3)) (by decide)
theorem s_127_98 {K : gC} : gOk K g_Ms mi_127 98 (ga_iload 5 100) := gs_iload (by decide +kernel : decode mi_127.2.1 98 = .ok (.iload 5, 2)) rfl
theorem s_127_100 {K : gC} : gOk K g_Ms mi_127 100 (ga_istore 7 102) := gs_istore (by decide +kernel : decode mi_127.2.1 100 = .ok (.istore 7, 2)) rfl
theorem s_127_102 {K : gC} : gOk K g_Ms mi_127 102 (ga_iload 6 104) := gs_iload (by decide +kernel : decode mi_127.2.1 102 = .ok (.iload 6, 2)) rfl
theorem s_127_104 {K : gC} : gOk K g_Ms mi_127 104 (ga_istore 8 106) := gs_istore (by decide +kernel : decode mi_127.2.1 104 = .ok (.istore 8, 2)) rfl
theorem s_127_106 {K : gC} : gOk K g_Ms mi_127 106 (ga_iload 8 108) := gs_iload (by decide +kernel : decode mi_127.2.1 106 = .ok (.iload 8, 2)) rfl
theorem s_127_108 {K : gC} : gOk K g_Ms mi_127 108 (ga_if (fun x => decide (x ≤ 0)) 129 111) := gs_if_le (by decide +kernel : decode mi_127.2.1 108 = .ok (.ifCond .le 21, 3)) (by decide) rfl
theorem s_127_111 {K : gC} : gOk K g_Ms mi_127 111 (ga_iload 7 113) := gs_iload (by decide +kernel : decode mi_127.2.1 111 = .ok (.iload 7, 2)) rfl
theorem s_127_113 {K : gC} : gOk K g_Ms mi_127 113 (ga_iload 8 115) := gs_iload (by decide +kernel : decode mi_127.2.1 113 = .ok (.iload 8, 2)) rfl
theorem s_127_115 {K : gC} : gOk K g_Ms mi_127 115 (ga_div (fun x y => x - x / y * y) 116) := gs_irem (by decide +kernel : decode mi_127.2.1 115 = .ok (.irem, 1)) rfl
theorem s_127_116 {K : gC} : gOk K g_Ms mi_127 116 (ga_istore 9 118) := gs_istore (by decide +kernel : decode mi_127.2.1 116 = .ok (.istore 9, 2)) rfl
theorem s_127_118 {K : gC} : gOk K g_Ms mi_127 118 (ga_iload 8 120) := gs_iload (by decide +kernel : decode mi_127.2.1 118 = .ok (.iload 8, 2)) rfl
theorem s_127_120 {K : gC} : gOk K g_Ms mi_127 120 (ga_istore 7 122) := gs_istore (by decide +kernel : decode mi_127.2.1 120 = .ok (.istore 7, 2)) rfl
theorem s_127_122 {K : gC} : gOk K g_Ms mi_127 122 (ga_iload 9 124) := gs_iload (by decide +kernel : decode mi_127.2.1 122 = .ok (.iload 9, 2)) rfl
theorem s_127_124 {K : gC} : gOk K g_Ms mi_127 124 (ga_istore 8 126) := gs_istore (by decide +kernel : decode mi_127.2.1 124 = .ok (.istore 8, 2)) rfl
theorem s_127_126 {K : gC} : gOk K g_Ms mi_127 126 (ga_goto 106) := gs_goto (by decide +kernel : decode mi_127.2.1 126 = .ok (.goto (-20), 3)) (by decide)
theorem s_127_129 {K : gC} : gOk K g_Ms mi_127 129 (ga_iload 4 131) := gs_iload (by decide +kernel : decode mi_127.2.1 129 = .ok (.iload 4, 2)) rfl
theorem s_127_131 {K : gC} : gOk K g_Ms mi_127 131 (ga_if (fun x => decide (¬ x = 0)) 139 134) := gs_if_ne (by decide +kernel : decode mi_127.2.1 131 = .ok (.ifCond .ne 8, 3)) (by decide) rfl
theorem s_127_134 {K : gC} : gOk K g_Ms mi_127 134 (ga_iload 5 136) := gs_iload (by decide +kernel : decode mi_127.2.1 134 = .ok (.iload 5, 2)) rfl
theorem s_127_136 {K : gC} : gOk K g_Ms mi_127 136 (ga_goto 141) := gs_goto (by decide +kernel : decode mi_127.2.1 136 = .ok (.goto 5, 3)) (by decide)
theorem s_127_139 {K : gC} : gOk K g_Ms mi_127 139 (ga_iload 6 141) := gs_iload (by decide +kernel : decode mi_127.2.1 139 = .ok (.iload 6, 2)) rfl
theorem s_127_141 {K : gC} : gOk K g_Ms mi_127 141 (ga_iload 7 143) := gs_iload (by decide +kernel : decode mi_127.2.1 141 = .ok (.iload 7, 2)) rfl
theorem s_127_143 {K : gC} : gOk K g_Ms mi_127 143 (ga_div (fun x y => x / y) 144) := gs_idiv (by decide +kernel : decode mi_127.2.1 143 = .ok (.idiv, 1)) rfl
theorem s_127_144 {K : gC} : gOk K g_Ms mi_127 144 (ga_iret) := gs_iret (by decide +kernel : decode mi_127.2.1 144 = .ok (.ireturn, 1)) rfl
theorem ok_127 {K : gC} : ∀ e ∈ t_127, gOk K g_Ms mi_127 e.1 e.2 := by
  unfold t_127
  simp only [List.forall_mem_cons, List.not_mem_nil, false_implies, implies_true, and_true]
  exact ⟨s_127_0, s_127_1, s_127_2, s_127_5, s_127_8, s_127_9, s_127_10, s_127_13, s_127_16, s_127_18, s_127_19, s_127_20, s_127_21, s_127_23, s_127_26, s_127_29, s_127_31, s_127_32, s_127_33, s_127_36, s_127_39, s_127_41, s_127_42, s_127_43, s_127_44, s_127_45, s_127_48, s_127_49, s_127_52, s_127_54, s_127_55, s_127_56, s_127_58, s_127_59, s_127_61, s_127_62, s_127_64, s_127_66, s_127_67, s_127_70, s_127_72, s_127_74, s_127_75, s_127_76, s_127_77, s_127_79, s_127_81, s_127_83, s_127_84, s_127_86, s_127_87, s_127_90, s_127_92, s_127_93, s_127_95, s_127_98, s_127_100, s_127_102, s_127_104, s_127_106, s_127_108, s_127_111, s_127_113, s_127_115, s_127_116, s_127_118, s_127_120, s_127_122, s_127_124, s_127_126, s_127_129, s_127_131, s_127_134, s_127_136, s_127_139, s_127_141, s_127_143, s_127_144⟩
theorem s_128_0 {K : gC} : gOk K g_Ms mi_128 0 (ga_aload 0 1) := gs_aload_n (by decide +kernel : decode mi_128.2.1 0 = .ok (.aload_n 0, 1)) rfl rfl
theorem s_128_1 {K : gC} : gOk K g_Ms mi_128 1 (ga_iload 1 2) := gs_iload_n (by decide +kernel : decode mi_128.2.1 1 = .ok (.iload_n 1, 1)) rfl rfl
theorem s_128_2 {K : gC} : gOk K g_Ms mi_128 2 (ga_callV 7 85 1 5) := gs_callV gcls_7 (gce_X7_isGong (by decide) (by decide)) gw_819 gw_821 gw_23 (by decide +kernel : decode mi_128.2.1 2 = .ok (.invokevirtual 172, 3)) rfl
theorem s_128_5 {K : gC} : gOk K g_Ms mi_128 5 (ga_if (fun x => decide (¬ x = 0)) 11 8) := gs_if_ne (by decide +kernel : decode mi_128.2.1 5 = .ok (.ifCond .ne 6, 3)) (by decide) rfl
theorem s_128_8 {K : gC} : gOk K g_Ms mi_128 8 (ga_push (.int (-2)) 10) := gs_bipush (by decide +kernel : decode mi_128.2.1 8 = .ok (.bipush (-2), 2)) (by decide) rfl
theorem s_128_10 {K : gC} : gOk K g_Ms mi_128 10 (ga_iret) := gs_iret (by decide +kernel : decode mi_128.2.1 10 = .ok (.ireturn, 1)) rfl
theorem s_128_11 {K : gC} : gOk K g_Ms mi_128 11 (ga_iload 2 12) := gs_iload_n (by decide +kernel : decode mi_128.2.1 11 = .ok (.iload_n 2, 1)) rfl rfl
theorem s_128_12 {K : gC} : gOk K g_Ms mi_128 12 (ga_push (.int 0) 13) := gs_iconst (by decide +kernel : decode mi_128.2.1 12 = .ok (.iconst 0, 1)) (by decide) rfl
theorem s_128_13 {K : gC} : gOk K g_Ms mi_128 13 (ga_push (.int 1) 14) := gs_iconst (by decide +kernel : decode mi_128.2.1 13 = .ok (.iconst 1, 1)) (by decide) rfl
theorem s_128_14 {K : gC} : gOk K g_Ms mi_128 14 (ga_call 83 3 17) := gs_callS (gce_X7_in (by decide) (by decide)) gw_751 gw_752 (by decide +kernel : decode mi_128.2.1 14 = .ok (.invokestatic 65, 3)) rfl
theorem s_128_17 {K : gC} : gOk K g_Ms mi_128 17 (ga_if (fun x => decide (¬ x = 0)) 23 20) := gs_if_ne (by decide +kernel : decode mi_128.2.1 17 = .ok (.ifCond .ne 6, 3)) (by decide) rfl
theorem s_128_20 {K : gC} : gOk K g_Ms mi_128 20 (ga_push (.int (-3)) 22) := gs_bipush (by decide +kernel : decode mi_128.2.1 20 = .ok (.bipush (-3), 2)) (by decide) rfl
theorem s_128_22 {K : gC} : gOk K g_Ms mi_128 22 (ga_iret) := gs_iret (by decide +kernel : decode mi_128.2.1 22 = .ok (.ireturn, 1)) rfl
theorem s_128_23 {K : gC} : gOk K g_Ms mi_128 23 (ga_aload 0 24) := gs_aload_n (by decide +kernel : decode mi_128.2.1 23 = .ok (.aload_n 0, 1)) rfl rfl
theorem s_128_24 {K : gC} : gOk K g_Ms mi_128 24 (ga_getI 7 24 27) := gs_getI gcls_7 (by decide) (by decide) gw_680 (by decide +kernel : decode mi_128.2.1 24 = .ok (.getfield 169, 3)) rfl
theorem s_128_27 {K : gC} : gOk K g_Ms mi_128 27 (ga_push (.int 8) 29) := gs_bipush (by decide +kernel : decode mi_128.2.1 27 = .ok (.bipush 8, 2)) (by decide) rfl
theorem s_128_29 {K : gC} : gOk K g_Ms mi_128 29 (ga_cmp (fun x y => decide (¬ x = y)) 35 32) := gs_cmp_ne (by decide +kernel : decode mi_128.2.1 29 = .ok (.if_icmp .ne 6, 3)) (by decide) rfl
theorem s_128_32 {K : gC} : gOk K g_Ms mi_128 32 (ga_push (.int (-5)) 34) := gs_bipush (by decide +kernel : decode mi_128.2.1 32 = .ok (.bipush (-5), 2)) (by decide) rfl
theorem s_128_34 {K : gC} : gOk K g_Ms mi_128 34 (ga_iret) := gs_iret (by decide +kernel : decode mi_128.2.1 34 = .ok (.ireturn, 1)) rfl
theorem s_128_35 {K : gC} : gOk K g_Ms mi_128 35 (ga_aload 0 36) := gs_aload_n (by decide +kernel : decode mi_128.2.1 35 = .ok (.aload_n 0, 1)) rfl rfl
theorem s_128_36 {K : gC} : gOk K g_Ms mi_128 36 (ga_getR 7 25 39) := gs_getR gcls_7 (by decide) (by decide) gw_681 (by decide +kernel : decode mi_128.2.1 36 = .ok (.getfield 46, 3)) rfl
theorem s_128_39 {K : gC} : gOk K g_Ms mi_128 39 (ga_push (.int 2) 40) := gs_iconst (by decide +kernel : decode mi_128.2.1 39 = .ok (.iconst 2, 1)) (by decide) rfl
theorem s_128_40 {K : gC} : gOk K g_Ms mi_128 40 (ga_aload 0 41) := gs_aload_n (by decide +kernel : decode mi_128.2.1 40 = .ok (.aload_n 0, 1)) rfl rfl
theorem s_128_41 {K : gC} : gOk K g_Ms mi_128 41 (ga_getI 7 24 44) := gs_getI gcls_7 (by decide) (by decide) gw_680 (by decide +kernel : decode mi_128.2.1 41 = .ok (.getfield 169, 3)) rfl
theorem s_128_44 {K : gC} : gOk K g_Ms mi_128 44 (ga_bin (fun x y => x * y) 45) := gs_imul (by decide +kernel : decode mi_128.2.1 44 = .ok (.imul, 1)) rfl
theorem s_128_45 {K : gC} : gOk K g_Ms mi_128 45 (ga_iload 1 46) := gs_iload_n (by decide +kernel : decode mi_128.2.1 45 = .ok (.iload_n 1, 1)) rfl rfl
theorem s_128_46 {K : gC} : gOk K g_Ms mi_128 46 (ga_iast 47) := gs_iast (by decide +kernel : decode mi_128.2.1 46 = .ok (.iastore, 1)) rfl
theorem s_128_47 {K : gC} : gOk K g_Ms mi_128 47 (ga_aload 0 48) := gs_aload_n (by decide +kernel : decode mi_128.2.1 47 = .ok (.aload_n 0, 1)) rfl rfl
theorem s_128_48 {K : gC} : gOk K g_Ms mi_128 48 (ga_getR 7 25 51) := gs_getR gcls_7 (by decide) (by decide) gw_681 (by decide +kernel : decode mi_128.2.1 48 = .ok (.getfield 46, 3)) rfl
theorem s_128_51 {K : gC} : gOk K g_Ms mi_128 51 (ga_push (.int 2) 52) := gs_iconst (by decide +kernel : decode mi_128.2.1 51 = .ok (.iconst 2, 1)) (by decide) rfl
theorem s_128_52 {K : gC} : gOk K g_Ms mi_128 52 (ga_aload 0 53) := gs_aload_n (by decide +kernel : decode mi_128.2.1 52 = .ok (.aload_n 0, 1)) rfl rfl
theorem s_128_53 {K : gC} : gOk K g_Ms mi_128 53 (ga_getI 7 24 56) := gs_getI gcls_7 (by decide) (by decide) gw_680 (by decide +kernel : decode mi_128.2.1 53 = .ok (.getfield 169, 3)) rfl
theorem s_128_56 {K : gC} : gOk K g_Ms mi_128 56 (ga_bin (fun x y => x * y) 57) := gs_imul (by decide +kernel : decode mi_128.2.1 56 = .ok (.imul, 1)) rfl
theorem s_128_57 {K : gC} : gOk K g_Ms mi_128 57 (ga_push (.int 1) 58) := gs_iconst (by decide +kernel : decode mi_128.2.1 57 = .ok (.iconst 1, 1)) (by decide) rfl
theorem s_128_58 {K : gC} : gOk K g_Ms mi_128 58 (ga_bin (fun x y => x + y) 59) := gs_iadd (by decide +kernel : decode mi_128.2.1 58 = .ok (.iadd, 1)) rfl
theorem s_128_59 {K : gC} : gOk K g_Ms mi_128 59 (ga_iload 2 60) := gs_iload_n (by decide +kernel : decode mi_128.2.1 59 = .ok (.iload_n 2, 1)) rfl rfl
theorem s_128_60 {K : gC} : gOk K g_Ms mi_128 60 (ga_iast 61) := gs_iast (by decide +kernel : decode mi_128.2.1 60 = .ok (.iastore, 1)) rfl
theorem s_128_61 {K : gC} : gOk K g_Ms mi_128 61 (ga_aload 0 62) := gs_aload_n (by decide +kernel : decode mi_128.2.1 61 = .ok (.aload_n 0, 1)) rfl rfl
theorem s_128_62 {K : gC} : gOk K g_Ms mi_128 62 (ga_dup 63) := gs_dup (by decide +kernel : decode mi_128.2.1 62 = .ok (.dup, 1)) rfl
theorem s_128_63 {K : gC} : gOk K g_Ms mi_128 63 (ga_getI 7 24 66) := gs_getI gcls_7 (by decide) (by decide) gw_680 (by decide +kernel : decode mi_128.2.1 63 = .ok (.getfield 169, 3)) rfl
theorem s_128_66 {K : gC} : gOk K g_Ms mi_128 66 (ga_push (.int 1) 67) := gs_iconst (by decide +kernel : decode mi_128.2.1 66 = .ok (.iconst 1, 1)) (by decide) rfl
theorem s_128_67 {K : gC} : gOk K g_Ms mi_128 67 (ga_bin (fun x y => x + y) 68) := gs_iadd (by decide +kernel : decode mi_128.2.1 67 = .ok (.iadd, 1)) rfl
theorem s_128_68 {K : gC} : gOk K g_Ms mi_128 68 (ga_putI 7 24 71) := gs_putI gcls_7 (by decide) (by decide) rfl rfl gw_680 (by decide +kernel : decode mi_128.2.1 68 = .ok (.putfield 169, 3)) rfl
theorem s_128_71 {K : gC} : gOk K g_Ms mi_128 71 (ga_aload 0 72) := gs_aload_n (by decide +kernel : decode mi_128.2.1 71 = .ok (.aload_n 0, 1)) rfl rfl
theorem s_128_72 {K : gC} : gOk K g_Ms mi_128 72 (ga_getI 7 24 75) := gs_getI gcls_7 (by decide) (by decide) gw_680 (by decide +kernel : decode mi_128.2.1 72 = .ok (.getfield 169, 3)) rfl
theorem s_128_75 {K : gC} : gOk K g_Ms mi_128 75 (ga_iret) := gs_iret (by decide +kernel : decode mi_128.2.1 75 = .ok (.ireturn, 1)) rfl
theorem ok_128 {K : gC} : ∀ e ∈ t_128, gOk K g_Ms mi_128 e.1 e.2 := by
  unfold t_128
  simp only [List.forall_mem_cons, List.not_mem_nil, false_implies, implies_true, and_true]
  exact ⟨s_128_0, s_128_1, s_128_2, s_128_5, s_128_8, s_128_10, s_128_11, s_128_12, s_128_13, s_128_14, s_128_17, s_128_20, s_128_22, s_128_23, s_128_24, s_128_27, s_128_29, s_128_32, s_128_34, s_128_35, s_128_36, s_128_39, s_128_40, s_128_41, s_128_44, s_128_45, s_128_46, s_128_47, s_128_48, s_128_51, s_128_52, s_128_53, s_128_56, s_128_57, s_128_58, s_128_59, s_128_60, s_128_61, s_128_62, s_128_63, s_128_66, s_128_67, s_128_68, s_128_71, s_128_72, s_128_75⟩
theorem s_129_0 {K : gC} : gOk K g_Ms mi_129 0 (ga_aload 0 1) := gs_aload_n (by decide +kernel : decode mi_129.2.1 0 = .ok (.aload_n 0, 1)) rfl rfl
theorem s_129_1 {K : gC} : gOk K g_Ms mi_129 1 (ga_getI 7 24 4) := gs_getI gcls_7 (by decide) (by decide) gw_680 (by decide +kernel : decode mi_129.2.1 1 = .ok (.getfield 169, 3)) rfl
theorem s_129_4 {K : gC} : gOk K g_Ms mi_129 4 (ga_istore 1 5) := gs_istore_n (by decide +kernel : decode mi_129.2.1 4 = .ok (.istore_n 1, 1)) rfl rfl
theorem s_129_5 {K : gC} : gOk K g_Ms mi_129 5 (ga_aload 0 6) := gs_aload_n (by decide +kernel : decode mi_129.2.1 5 = .ok (.aload_n 0, 1)) rfl rfl
theorem s_129_6 {K : gC} : gOk K g_Ms mi_129 6 (ga_push (.int 0) 7) := gs_iconst (by decide +kernel : decode mi_129.2.1 6 = .ok (.iconst 0, 1)) (by decide) rfl
theorem s_129_7 {K : gC} : gOk K g_Ms mi_129 7 (ga_putI 7 24 10) := gs_putI gcls_7 (by decide) (by decide) rfl rfl gw_680 (by decide +kernel : decode mi_129.2.1 7 = .ok (.putfield 169, 3)) rfl
theorem s_129_10 {K : gC} : gOk K g_Ms mi_129 10 (ga_iload 1 11) := gs_iload_n (by decide +kernel : decode mi_129.2.1 10 = .ok (.iload_n 1, 1)) rfl rfl
theorem s_129_11 {K : gC} : gOk K g_Ms mi_129 11 (ga_iret) := gs_iret (by decide +kernel : decode mi_129.2.1 11 = .ok (.ireturn, 1)) rfl
theorem ok_129 {K : gC} : ∀ e ∈ t_129, gOk K g_Ms mi_129 e.1 e.2 := by
  unfold t_129
  simp only [List.forall_mem_cons, List.not_mem_nil, false_implies, implies_true, and_true]
  exact ⟨s_129_0, s_129_1, s_129_4, s_129_5, s_129_6, s_129_7, s_129_10, s_129_11⟩
theorem s_130_0 {K : gC} : gOk K g_Ms mi_130 0 (ga_aload 0 1) := gs_aload_n (by decide +kernel : decode mi_130.2.1 0 = .ok (.aload_n 0, 1)) rfl rfl
theorem s_130_1 {K : gC} : gOk K g_Ms mi_130 1 (ga_iload 1 2) := gs_iload_n (by decide +kernel : decode mi_130.2.1 1 = .ok (.iload_n 1, 1)) rfl rfl
theorem s_130_2 {K : gC} : gOk K g_Ms mi_130 2 (ga_callV 7 114 1 5) := gs_callV gcls_7 (gce_X7_layFirst (by decide) (by decide)) gw_891 gw_893 gw_31 (by decide +kernel : decode mi_130.2.1 2 = .ok (.invokevirtual 204, 3)) rfl
theorem s_130_5 {K : gC} : gOk K g_Ms mi_130 5 (ga_istore 2 6) := gs_istore_n (by decide +kernel : decode mi_130.2.1 5 = .ok (.istore_n 2, 1)) rfl rfl
theorem s_130_6 {K : gC} : gOk K g_Ms mi_130 6 (ga_push (.int 1) 7) := gs_iconst (by decide +kernel : decode mi_130.2.1 6 = .ok (.iconst 1, 1)) (by decide) rfl
theorem s_130_7 {K : gC} : gOk K g_Ms mi_130 7 (ga_istore 3 8) := gs_istore_n (by decide +kernel : decode mi_130.2.1 7 = .ok (.istore_n 3, 1)) rfl rfl
theorem s_130_8 {K : gC} : gOk K g_Ms mi_130 8 (ga_push (.int 0) 9) := gs_iconst (by decide +kernel : decode mi_130.2.1 8 = .ok (.iconst 0, 1)) (by decide) rfl
theorem s_130_9 {K : gC} : gOk K g_Ms mi_130 9 (ga_istore 4 11) := gs_istore (by decide +kernel : decode mi_130.2.1 9 = .ok (.istore 4, 2)) rfl
theorem s_130_11 {K : gC} : gOk K g_Ms mi_130 11 (ga_iload 4 13) := gs_iload (by decide +kernel : decode mi_130.2.1 11 = .ok (.iload 4, 2)) rfl
theorem s_130_13 {K : gC} : gOk K g_Ms mi_130 13 (ga_aload 0 14) := gs_aload_n (by decide +kernel : decode mi_130.2.1 13 = .ok (.aload_n 0, 1)) rfl rfl
theorem s_130_14 {K : gC} : gOk K g_Ms mi_130 14 (ga_getI 7 24 17) := gs_getI gcls_7 (by decide) (by decide) gw_680 (by decide +kernel : decode mi_130.2.1 14 = .ok (.getfield 169, 3)) rfl
theorem s_130_17 {K : gC} : gOk K g_Ms mi_130 17 (ga_cmp (fun x y => decide (y ≤ x)) 63 20) := gs_cmp_ge (by decide +kernel : decode mi_130.2.1 17 = .ok (.if_icmp .ge 46, 3)) (by decide) rfl
theorem s_130_20 {K : gC} : gOk K g_Ms mi_130 20 (ga_iload 3 21) := gs_iload_n (by decide +kernel : decode mi_130.2.1 20 = .ok (.iload_n 3, 1)) rfl rfl
theorem s_130_21 {K : gC} : gOk K g_Ms mi_130 21 (ga_if (fun x => decide (x = 0)) 55 24) := gs_if_eq (by decide +kernel : decode mi_130.2.1 21 = .ok (.ifCond .eq 34, 3)) (by decide) rfl
theorem s_130_24 {K : gC} : gOk K g_Ms mi_130 24 (ga_iload 2 25) := gs_iload_n (by decide +kernel : decode mi_130.2.1 24 = .ok (.iload_n 2, 1)) rfl rfl
theorem s_130_25 {K : gC} : gOk K g_Ms mi_130 25 (ga_aload 0 26) := gs_aload_n (by decide +kernel : decode mi_130.2.1 25 = .ok (.aload_n 0, 1)) rfl rfl
theorem s_130_26 {K : gC} : gOk K g_Ms mi_130 26 (ga_getR 7 25 29) := gs_getR gcls_7 (by decide) (by decide) gw_681 (by decide +kernel : decode mi_130.2.1 26 = .ok (.getfield 46, 3)) rfl
theorem s_130_29 {K : gC} : gOk K g_Ms mi_130 29 (ga_push (.int 2) 30) := gs_iconst (by decide +kernel : decode mi_130.2.1 29 = .ok (.iconst 2, 1)) (by decide) rfl
theorem s_130_30 {K : gC} : gOk K g_Ms mi_130 30 (ga_iload 4 32) := gs_iload (by decide +kernel : decode mi_130.2.1 30 = .ok (.iload 4, 2)) rfl
theorem s_130_32 {K : gC} : gOk K g_Ms mi_130 32 (ga_bin (fun x y => x * y) 33) := gs_imul (by decide +kernel : decode mi_130.2.1 32 = .ok (.imul, 1)) rfl
theorem s_130_33 {K : gC} : gOk K g_Ms mi_130 33 (ga_iald 34) := gs_iald (by decide +kernel : decode mi_130.2.1 33 = .ok (.iaload, 1)) rfl
theorem s_130_34 {K : gC} : gOk K g_Ms mi_130 34 (ga_bin (fun x y => x >>> (y &&& 31)) 35) := gs_ishr (by decide +kernel : decode mi_130.2.1 34 = .ok (.ishr, 1)) rfl
theorem s_130_35 {K : gC} : gOk K g_Ms mi_130 35 (ga_push (.int 1) 36) := gs_iconst (by decide +kernel : decode mi_130.2.1 35 = .ok (.iconst 1, 1)) (by decide) rfl
theorem s_130_36 {K : gC} : gOk K g_Ms mi_130 36 (ga_bin (fun x y => x &&& y) 37) := gs_iand (by decide +kernel : decode mi_130.2.1 36 = .ok (.iand, 1)) rfl
theorem s_130_37 {K : gC} : gOk K g_Ms mi_130 37 (ga_aload 0 38) := gs_aload_n (by decide +kernel : decode mi_130.2.1 37 = .ok (.aload_n 0, 1)) rfl rfl
theorem s_130_38 {K : gC} : gOk K g_Ms mi_130 38 (ga_getR 7 25 41) := gs_getR gcls_7 (by decide) (by decide) gw_681 (by decide +kernel : decode mi_130.2.1 38 = .ok (.getfield 46, 3)) rfl
theorem s_130_41 {K : gC} : gOk K g_Ms mi_130 41 (ga_push (.int 2) 42) := gs_iconst (by decide +kernel : decode mi_130.2.1 41 = .ok (.iconst 2, 1)) (by decide) rfl
theorem s_130_42 {K : gC} : gOk K g_Ms mi_130 42 (ga_iload 4 44) := gs_iload (by decide +kernel : decode mi_130.2.1 42 = .ok (.iload 4, 2)) rfl
theorem s_130_44 {K : gC} : gOk K g_Ms mi_130 44 (ga_bin (fun x y => x * y) 45) := gs_imul (by decide +kernel : decode mi_130.2.1 44 = .ok (.imul, 1)) rfl
theorem s_130_45 {K : gC} : gOk K g_Ms mi_130 45 (ga_push (.int 1) 46) := gs_iconst (by decide +kernel : decode mi_130.2.1 45 = .ok (.iconst 1, 1)) (by decide) rfl
theorem s_130_46 {K : gC} : gOk K g_Ms mi_130 46 (ga_bin (fun x y => x + y) 47) := gs_iadd (by decide +kernel : decode mi_130.2.1 46 = .ok (.iadd, 1)) rfl
theorem s_130_47 {K : gC} : gOk K g_Ms mi_130 47 (ga_iald 48) := gs_iald (by decide +kernel : decode mi_130.2.1 47 = .ok (.iaload, 1)) rfl
theorem s_130_48 {K : gC} : gOk K g_Ms mi_130 48 (ga_cmp (fun x y => decide (¬ x = y)) 55 51) := gs_cmp_ne (by decide +kernel : decode mi_130.2.1 48 = .ok (.if_icmp .ne 7, 3)) (by decide) rfl
theorem s_130_51 {K : gC} : gOk K g_Ms mi_130 51 (ga_push (.int 1) 52) := gs_iconst (by decide +kernel : decode mi_130.2.1 51 = .ok (.iconst 1, 1)) (by decide) rfl
theorem s_130_52 {K : gC} : gOk K g_Ms mi_130 52 (ga_goto 56) := gs_goto (by decide +kernel : decode mi_130.2.1 52 = .ok (.goto 4, 3)) (by decide)
theorem s_130_55 {K : gC} : gOk K g_Ms mi_130 55 (ga_push (.int 0) 56) := gs_iconst (by decide +kernel : decode mi_130.2.1 55 = .ok (.iconst 0, 1)) (by decide) rfl
theorem s_130_56 {K : gC} : gOk K g_Ms mi_130 56 (ga_istore 3 57) := gs_istore_n (by decide +kernel : decode mi_130.2.1 56 = .ok (.istore_n 3, 1)) rfl rfl
theorem s_130_57 {K : gC} : gOk K g_Ms mi_130 57 (ga_iinc 4 1 60) := gs_iinc (by decide +kernel : decode mi_130.2.1 57 = .ok (.iinc 4 1, 3)) (by decide) rfl
theorem s_130_60 {K : gC} : gOk K g_Ms mi_130 60 (ga_goto 11) := gs_goto (by decide +kernel : decode mi_130.2.1 60 = .ok (.goto (-49), 3)) (by decide)
theorem s_130_63 {K : gC} : gOk K g_Ms mi_130 63 (ga_iload 3 64) := gs_iload_n (by decide +kernel : decode mi_130.2.1 63 = .ok (.iload_n 3, 1)) rfl rfl
theorem s_130_64 {K : gC} : gOk K g_Ms mi_130 64 (ga_zret) := gs_zret (by decide +kernel : decode mi_130.2.1 64 = .ok (.ireturn, 1)) rfl rfl rfl
theorem ok_130 {K : gC} : ∀ e ∈ t_130, gOk K g_Ms mi_130 e.1 e.2 := by
  unfold t_130
  simp only [List.forall_mem_cons, List.not_mem_nil, false_implies, implies_true, and_true]
  exact ⟨s_130_0, s_130_1, s_130_2, s_130_5, s_130_6, s_130_7, s_130_8, s_130_9, s_130_11, s_130_13, s_130_14, s_130_17, s_130_20, s_130_21, s_130_24, s_130_25, s_130_26, s_130_29, s_130_30, s_130_32, s_130_33, s_130_34, s_130_35, s_130_36, s_130_37, s_130_38, s_130_41, s_130_42, s_130_44, s_130_45, s_130_46, s_130_47, s_130_48, s_130_51, s_130_52, s_130_55, s_130_56, s_130_57, s_130_60, s_130_63, s_130_64⟩
theorem s_131_0 {K : gC} : gOk K g_Ms mi_131 0 (ga_aload 0 1) := gs_aload_n (by decide +kernel : decode mi_131.2.1 0 = .ok (.aload_n 0, 1)) rfl rfl
theorem s_131_1 {K : gC} : gOk K g_Ms mi_131 1 (ga_iload 1 2) := gs_iload_n (by decide +kernel : decode mi_131.2.1 1 = .ok (.iload_n 1, 1)) rfl rfl
theorem s_131_2 {K : gC} : gOk K g_Ms mi_131 2 (ga_callV 7 85 1 5) := gs_callV gcls_7 (gce_X7_isGong (by decide) (by decide)) gw_819 gw_821 gw_23 (by decide +kernel : decode mi_131.2.1 2 = .ok (.invokevirtual 172, 3)) rfl
theorem s_131_5 {K : gC} : gOk K g_Ms mi_131 5 (ga_if (fun x => decide (¬ x = 0)) 11 8) := gs_if_ne (by decide +kernel : decode mi_131.2.1 5 = .ok (.ifCond .ne 6, 3)) (by decide) rfl
theorem s_131_8 {K : gC} : gOk K g_Ms mi_131 8 (ga_push (.int (-2)) 10) := gs_bipush (by decide +kernel : decode mi_131.2.1 8 = .ok (.bipush (-2), 2)) (by decide) rfl
theorem s_131_10 {K : gC} : gOk K g_Ms mi_131 10 (ga_iret) := gs_iret (by decide +kernel : decode mi_131.2.1 10 = .ok (.ireturn, 1)) rfl
theorem s_131_11 {K : gC} : gOk K g_Ms mi_131 11 (ga_iload 2 12) := gs_iload_n (by decide +kernel : decode mi_131.2.1 11 = .ok (.iload_n 2, 1)) rfl rfl
theorem s_131_12 {K : gC} : gOk K g_Ms mi_131 12 (ga_push (.int 0) 13) := gs_iconst (by decide +kernel : decode mi_131.2.1 12 = .ok (.iconst 0, 1)) (by decide) rfl
theorem s_131_13 {K : gC} : gOk K g_Ms mi_131 13 (ga_push (.int 1) 14) := gs_iconst (by decide +kernel : decode mi_131.2.1 13 = .ok (.iconst 1, 1)) (by decide) rfl
theorem s_131_14 {K : gC} : gOk K g_Ms mi_131 14 (ga_call 83 3 17) := gs_callS (gce_X7_in (by decide) (by decide)) gw_751 gw_752 (by decide +kernel : decode mi_131.2.1 14 = .ok (.invokestatic 65, 3)) rfl
theorem s_131_17 {K : gC} : gOk K g_Ms mi_131 17 (ga_if (fun x => decide (¬ x = 0)) 23 20) := gs_if_ne (by decide +kernel : decode mi_131.2.1 17 = .ok (.ifCond .ne 6, 3)) (by decide) rfl
theorem s_131_20 {K : gC} : gOk K g_Ms mi_131 20 (ga_push (.int (-3)) 22) := gs_bipush (by decide +kernel : decode mi_131.2.1 20 = .ok (.bipush (-3), 2)) (by decide) rfl
theorem s_131_22 {K : gC} : gOk K g_Ms mi_131 22 (ga_iret) := gs_iret (by decide +kernel : decode mi_131.2.1 22 = .ok (.ireturn, 1)) rfl
theorem s_131_23 {K : gC} : gOk K g_Ms mi_131 23 (ga_iload 2 24) := gs_iload_n (by decide +kernel : decode mi_131.2.1 23 = .ok (.iload_n 2, 1)) rfl rfl
theorem s_131_24 {K : gC} : gOk K g_Ms mi_131 24 (ga_push (.int 1) 25) := gs_iconst (by decide +kernel : decode mi_131.2.1 24 = .ok (.iconst 1, 1)) (by decide) rfl
theorem s_131_25 {K : gC} : gOk K g_Ms mi_131 25 (ga_cmp (fun x y => decide (¬ x = y)) 42 28) := gs_cmp_ne (by decide +kernel : decode mi_131.2.1 25 = .ok (.if_icmp .ne 17, 3)) (by decide) rfl
theorem s_131_28 {K : gC} : gOk K g_Ms mi_131 28 (ga_aload 0 29) := gs_aload_n (by decide +kernel : decode mi_131.2.1 28 = .ok (.aload_n 0, 1)) rfl rfl
theorem s_131_29 {K : gC} : gOk K g_Ms mi_131 29 (ga_iload 1 30) := gs_iload_n (by decide +kernel : decode mi_131.2.1 29 = .ok (.iload_n 1, 1)) rfl rfl
theorem s_131_30 {K : gC} : gOk K g_Ms mi_131 30 (ga_callV 7 130 1 33) := gs_callV gcls_7 (gce_X7_isSo (by decide) (by decide)) gw_950 gw_952 gw_35 (by decide +kernel : decode mi_131.2.1 30 = .ok (.invokevirtual 221, 3)) rfl
theorem s_131_33 {K : gC} : gOk K g_Ms mi_131 33 (ga_if (fun x => decide (x = 0)) 40 36) := gs_if_eq (by decide +kernel : decode mi_131.2.1 33 = .ok (.ifCond .eq 7, 3)) (by decide) rfl
theorem s_131_36 {K : gC} : gOk K g_Ms mi_131 36 (ga_push (.int 1) 37) := gs_iconst (by decide +kernel : decode mi_131.2.1 36 = .ok (.iconst 1, 1)) (by decide) rfl
theorem s_131_37 {K : gC} : gOk K g_Ms mi_131 37 (ga_goto 41) := gs_goto (by decide +kernel : decode mi_131.2.1 37 = .ok (.goto 4, 3)) (by decide)
theorem s_131_40 {K : gC} : gOk K g_Ms mi_131 40 (ga_push (.int 0) 41) := gs_iconst (by decide +kernel : decode mi_131.2.1 40 = .ok (.iconst 0, 1)) (by decide) rfl
theorem s_131_41 {K : gC} : gOk K g_Ms mi_131 41 (ga_iret) := gs_iret (by decide +kernel : decode mi_131.2.1 41 = .ok (.ireturn, 1)) rfl
theorem s_131_42 {K : gC} : gOk K g_Ms mi_131 42 (ga_push (.int 0) 43) := gs_iconst (by decide +kernel : decode mi_131.2.1 42 = .ok (.iconst 0, 1)) (by decide) rfl
theorem s_131_43 {K : gC} : gOk K g_Ms mi_131 43 (ga_istore 3 44) := gs_istore_n (by decide +kernel : decode mi_131.2.1 43 = .ok (.istore_n 3, 1)) rfl rfl
theorem s_131_44 {K : gC} : gOk K g_Ms mi_131 44 (ga_push (.int 0) 45) := gs_iconst (by decide +kernel : decode mi_131.2.1 44 = .ok (.iconst 0, 1)) (by decide) rfl
theorem s_131_45 {K : gC} : gOk K g_Ms mi_131 45 (ga_istore 4 47) := gs_istore (by decide +kernel : decode mi_131.2.1 45 = .ok (.istore 4, 2)) rfl
theorem s_131_47 {K : gC} : gOk K g_Ms mi_131 47 (ga_iload 4 49) := gs_iload (by decide +kernel : decode mi_131.2.1 47 = .ok (.iload 4, 2)) rfl
theorem s_131_49 {K : gC} : gOk K g_Ms mi_131 49 (ga_aload 0 50) := gs_aload_n (by decide +kernel : decode mi_131.2.1 49 = .ok (.aload_n 0, 1)) rfl rfl
theorem s_131_50 {K : gC} : gOk K g_Ms mi_131 50 (ga_getI 7 0 53) := gs_getI gcls_7 (by decide) (by decide) gw_656 (by decide +kernel : decode mi_131.2.1 50 = .ok (.getfield 7, 3)) rfl
theorem s_131_53 {K : gC} : gOk K g_Ms mi_131 53 (ga_cmp (fun x y => decide (y ≤ x)) 93 56) := gs_cmp_ge (by decide +kernel : decode mi_131.2.1 53 = .ok (.if_icmp .ge 40, 3)) (by decide) rfl
theorem s_131_56 {K : gC} : gOk K g_Ms mi_131 56 (ga_aload 0 57) := gs_aload_n (by decide +kernel : decode mi_131.2.1 56 = .ok (.aload_n 0, 1)) rfl rfl
theorem s_131_57 {K : gC} : gOk K g_Ms mi_131 57 (ga_iload 4 59) := gs_iload (by decide +kernel : decode mi_131.2.1 57 = .ok (.iload 4, 2)) rfl
theorem s_131_59 {K : gC} : gOk K g_Ms mi_131 59 (ga_putI 7 27 62) := gs_putI gcls_7 (by decide) (by decide) rfl rfl gw_683 (by decide +kernel : decode mi_131.2.1 59 = .ok (.putfield 52, 3)) rfl
theorem s_131_62 {K : gC} : gOk K g_Ms mi_131 62 (ga_iload 3 63) := gs_iload_n (by decide +kernel : decode mi_131.2.1 62 = .ok (.iload_n 3, 1)) rfl rfl
theorem s_131_63 {K : gC} : gOk K g_Ms mi_131 63 (ga_iload 4 65) := gs_iload (by decide +kernel : decode mi_131.2.1 63 = .ok (.iload 4, 2)) rfl
theorem s_131_65 {K : gC} : gOk K g_Ms mi_131 65 (ga_iload 1 66) := gs_iload_n (by decide +kernel : decode mi_131.2.1 65 = .ok (.iload_n 1, 1)) rfl rfl
theorem s_131_66 {K : gC} : gOk K g_Ms mi_131 66 (ga_cmp (fun x y => decide (x = y)) 84 69) := gs_cmp_eq (by decide +kernel : decode mi_131.2.1 66 = .ok (.if_icmp .eq 18, 3)) (by decide) rfl
theorem s_131_69 {K : gC} : gOk K g_Ms mi_131 69 (ga_aload 0 70) := gs_aload_n (by decide +kernel : decode mi_131.2.1 69 = .ok (.aload_n 0, 1)) rfl rfl
theorem s_131_70 {K : gC} : gOk K g_Ms mi_131 70 (ga_iload 1 71) := gs_iload_n (by decide +kernel : decode mi_131.2.1 70 = .ok (.iload_n 1, 1)) rfl rfl
theorem s_131_71 {K : gC} : gOk K g_Ms mi_131 71 (ga_callV 7 130 1 74) := gs_callV gcls_7 (gce_X7_isSo (by decide) (by decide)) gw_950 gw_952 gw_35 (by decide +kernel : decode mi_131.2.1 71 = .ok (.invokevirtual 221, 3)) rfl
theorem s_131_74 {K : gC} : gOk K g_Ms mi_131 74 (ga_if (fun x => decide (x = 0)) 84 77) := gs_if_eq (by decide +kernel : decode mi_131.2.1 74 = .ok (.ifCond .eq 10, 3)) (by decide) rfl
theorem s_131_77 {K : gC} : gOk K g_Ms mi_131 77 (ga_push (.int 1) 78) := gs_iconst (by decide +kernel : decode mi_131.2.1 77 = .ok (.iconst 1, 1)) (by decide) rfl
theorem s_131_78 {K : gC} : gOk K g_Ms mi_131 78 (ga_iload 4 80) := gs_iload (by decide +kernel : decode mi_131.2.1 78 = .ok (.iload 4, 2)) rfl
theorem s_131_80 {K : gC} : gOk K g_Ms mi_131 80 (ga_bin (fun x y => x <<< (y &&& 31)) 81) := gs_ishl (by decide +kernel : decode mi_131.2.1 80 = .ok (.ishl, 1)) rfl
theorem s_131_81 {K : gC} : gOk K g_Ms mi_131 81 (ga_goto 85) := gs_goto (by decide +kernel : decode mi_131.2.1 81 = .ok (.goto 4, 3)) (by decide)
theorem s_131_84 {K : gC} : gOk K g_Ms mi_131 84 (ga_push (.int 0) 85) := gs_iconst (by decide +kernel : decode mi_131.2.1 84 = .ok (.iconst 0, 1)) (by decide) rfl
theorem s_131_85 {K : gC} : gOk K g_Ms mi_131 85 (ga_bin (fun x y => x ||| y) 86) := gs_ior (by decide +kernel : decode mi_131.2.1 85 = .ok (.ior, 1)) rfl
theorem s_131_86 {K : gC} : gOk K g_Ms mi_131 86 (ga_istore 3 87) := gs_istore_n (by decide +kernel : decode mi_131.2.1 86 = .ok (.istore_n 3, 1)) rfl rfl
theorem s_131_87 {K : gC} : gOk K g_Ms mi_131 87 (ga_iinc 4 1 90) := gs_iinc (by decide +kernel : decode mi_131.2.1 87 = .ok (.iinc 4 1, 3)) (by decide) rfl
theorem s_131_90 {K : gC} : gOk K g_Ms mi_131 90 (ga_goto 47) := gs_goto (by decide +kernel : decode mi_131.2.1 90 = .ok (.goto (-43), 3)) (by decide)
theorem s_131_93 {K : gC} : gOk K g_Ms mi_131 93 (ga_aload 0 94) := gs_aload_n (by decide +kernel : decode mi_131.2.1 93 = .ok (.aload_n 0, 1)) rfl rfl
theorem s_131_94 {K : gC} : gOk K g_Ms mi_131 94 (ga_push (.int (-1)) 95) := gs_iconst (by decide +kernel : decode mi_131.2.1 94 = .ok (.iconst (-1), 1)) (by decide) rfl
theorem s_131_95 {K : gC} : gOk K g_Ms mi_131 95 (ga_putI 7 27 98) := gs_putI gcls_7 (by decide) (by decide) rfl rfl gw_683 (by decide +kernel : decode mi_131.2.1 95 = .ok (.putfield 52, 3)) rfl
theorem s_131_98 {K : gC} : gOk K g_Ms mi_131 98 (ga_iload 3 99) := gs_iload_n (by decide +kernel : decode mi_131.2.1 98 = .ok (.iload_n 3, 1)) rfl rfl
theorem s_131_99 {K : gC} : gOk K g_Ms mi_131 99 (ga_iret) := gs_iret (by decide +kernel : decode mi_131.2.1 99 = .ok (.ireturn, 1)) rfl
theorem ok_131 {K : gC} : ∀ e ∈ t_131, gOk K g_Ms mi_131 e.1 e.2 := by
  unfold t_131
  simp only [List.forall_mem_cons, List.not_mem_nil, false_implies, implies_true, and_true]
  exact ⟨s_131_0, s_131_1, s_131_2, s_131_5, s_131_8, s_131_10, s_131_11, s_131_12, s_131_13, s_131_14, s_131_17, s_131_20, s_131_22, s_131_23, s_131_24, s_131_25, s_131_28, s_131_29, s_131_30, s_131_33, s_131_36, s_131_37, s_131_40, s_131_41, s_131_42, s_131_43, s_131_44, s_131_45, s_131_47, s_131_49, s_131_50, s_131_53, s_131_56, s_131_57, s_131_59, s_131_62, s_131_63, s_131_65, s_131_66, s_131_69, s_131_70, s_131_71, s_131_74, s_131_77, s_131_78, s_131_80, s_131_81, s_131_84, s_131_85, s_131_86, s_131_87, s_131_90, s_131_93, s_131_94, s_131_95, s_131_98, s_131_99⟩
theorem s_132_0 {K : gC} : gOk K g_Ms mi_132 0 (ga_push (.int 0) 1) := gs_iconst (by decide +kernel : decode mi_132.2.1 0 = .ok (.iconst 0, 1)) (by decide) rfl
theorem s_132_1 {K : gC} : gOk K g_Ms mi_132 1 (ga_istore 2 2) := gs_istore_n (by decide +kernel : decode mi_132.2.1 1 = .ok (.istore_n 2, 1)) rfl rfl
theorem s_132_2 {K : gC} : gOk K g_Ms mi_132 2 (ga_push (.int 0) 3) := gs_iconst (by decide +kernel : decode mi_132.2.1 2 = .ok (.iconst 0, 1)) (by decide) rfl
theorem s_132_3 {K : gC} : gOk K g_Ms mi_132 3 (ga_istore 3 4) := gs_istore_n (by decide +kernel : decode mi_132.2.1 3 = .ok (.istore_n 3, 1)) rfl rfl
theorem s_132_4 {K : gC} : gOk K g_Ms mi_132 4 (ga_push (.int 0) 5) := gs_iconst (by decide +kernel : decode mi_132.2.1 4 = .ok (.iconst 0, 1)) (by decide) rfl
theorem s_132_5 {K : gC} : gOk K g_Ms mi_132 5 (ga_istore 4 7) := gs_istore (by decide +kernel : decode mi_132.2.1 5 = .ok (.istore 4, 2)) rfl
theorem s_132_7 {K : gC} : gOk K g_Ms mi_132 7 (ga_iload 4 9) := gs_iload (by decide +kernel : decode mi_132.2.1 7 = .ok (.iload 4, 2)) rfl
theorem s_132_9 {K : gC} : gOk K g_Ms mi_132 9 (ga_aload 0 10) := gs_aload_n (by decide +kernel : decode mi_132.2.1 9 = .ok (.aload_n 0, 1)) rfl rfl
theorem s_132_10 {K : gC} : gOk K g_Ms mi_132 10 (ga_getI 7 0 13) := gs_getI gcls_7 (by decide) (by decide) gw_656 (by decide +kernel : decode mi_132.2.1 10 = .ok (.getfield 7, 3)) rfl
theorem s_132_13 {K : gC} : gOk K g_Ms mi_132 13 (ga_cmp (fun x y => decide (y ≤ x)) 55 16) := gs_cmp_ge (by decide +kernel : decode mi_132.2.1 13 = .ok (.if_icmp .ge 42, 3)) (by decide) rfl
theorem s_132_16 {K : gC} : gOk K g_Ms mi_132 16 (ga_iload 2 17) := gs_iload_n (by decide +kernel : decode mi_132.2.1 16 = .ok (.iload_n 2, 1)) rfl rfl
theorem s_132_17 {K : gC} : gOk K g_Ms mi_132 17 (ga_aload 0 18) := gs_aload_n (by decide +kernel : decode mi_132.2.1 17 = .ok (.aload_n 0, 1)) rfl rfl
theorem s_132_18 {K : gC} : gOk K g_Ms mi_132 18 (ga_getR 7 18 21) := gs_getR gcls_7 (by decide) (by decide) gw_674 (by decide +kernel : decode mi_132.2.1 18 = .ok (.getfield 32, 3)) rfl
theorem s_132_21 {K : gC} : gOk K g_Ms mi_132 21 (ga_iload 4 23) := gs_iload (by decide +kernel : decode mi_132.2.1 21 = .ok (.iload 4, 2)) rfl
theorem s_132_23 {K : gC} : gOk K g_Ms mi_132 23 (ga_lald 24) := gs_lald (by decide +kernel : decode mi_132.2.1 23 = .ok (.laload, 1)) rfl
theorem s_132_24 {K : gC} : gOk K g_Ms mi_132 24 (ga_push (.long 0) 25) := gs_lconst (by decide +kernel : decode mi_132.2.1 24 = .ok (.lconst 0, 1)) (by decide) rfl
theorem s_132_25 {K : gC} : gOk K g_Ms mi_132 25 (ga_lcmp 26) := gs_lcmp (by decide +kernel : decode mi_132.2.1 25 = .ok (.lcmp, 1)) rfl
theorem s_132_26 {K : gC} : gOk K g_Ms mi_132 26 (ga_if (fun x => decide (x = 0)) 36 29) := gs_if_eq (by decide +kernel : decode mi_132.2.1 26 = .ok (.ifCond .eq 10, 3)) (by decide) rfl
theorem s_132_29 {K : gC} : gOk K g_Ms mi_132 29 (ga_push (.int 1) 30) := gs_iconst (by decide +kernel : decode mi_132.2.1 29 = .ok (.iconst 1, 1)) (by decide) rfl
theorem s_132_30 {K : gC} : gOk K g_Ms mi_132 30 (ga_iload 4 32) := gs_iload (by decide +kernel : decode mi_132.2.1 30 = .ok (.iload 4, 2)) rfl
theorem s_132_32 {K : gC} : gOk K g_Ms mi_132 32 (ga_bin (fun x y => x <<< (y &&& 31)) 33) := gs_ishl (by decide +kernel : decode mi_132.2.1 32 = .ok (.ishl, 1)) rfl
theorem s_132_33 {K : gC} : gOk K g_Ms mi_132 33 (ga_goto 37) := gs_goto (by decide +kernel : decode mi_132.2.1 33 = .ok (.goto 4, 3)) (by decide)
theorem s_132_36 {K : gC} : gOk K g_Ms mi_132 36 (ga_push (.int 0) 37) := gs_iconst (by decide +kernel : decode mi_132.2.1 36 = .ok (.iconst 0, 1)) (by decide) rfl
theorem s_132_37 {K : gC} : gOk K g_Ms mi_132 37 (ga_bin (fun x y => x ||| y) 38) := gs_ior (by decide +kernel : decode mi_132.2.1 37 = .ok (.ior, 1)) rfl
theorem s_132_38 {K : gC} : gOk K g_Ms mi_132 38 (ga_istore 2 39) := gs_istore_n (by decide +kernel : decode mi_132.2.1 38 = .ok (.istore_n 2, 1)) rfl rfl
theorem s_132_39 {K : gC} : gOk K g_Ms mi_132 39 (ga_iload 3 40) := gs_iload_n (by decide +kernel : decode mi_132.2.1 39 = .ok (.iload_n 3, 1)) rfl rfl
theorem s_132_40 {K : gC} : gOk K g_Ms mi_132 40 (ga_aload 0 41) := gs_aload_n (by decide +kernel : decode mi_132.2.1 40 = .ok (.aload_n 0, 1)) rfl rfl
theorem s_132_41 {K : gC} : gOk K g_Ms mi_132 41 (ga_getR 7 19 44) := gs_getR gcls_7 (by decide) (by decide) gw_675 (by decide +kernel : decode mi_132.2.1 41 = .ok (.getfield 36, 3)) rfl
theorem s_132_44 {K : gC} : gOk K g_Ms mi_132 44 (ga_iload 4 46) := gs_iload (by decide +kernel : decode mi_132.2.1 44 = .ok (.iload 4, 2)) rfl
theorem s_132_46 {K : gC} : gOk K g_Ms mi_132 46 (ga_iald 47) := gs_iald (by decide +kernel : decode mi_132.2.1 46 = .ok (.iaload, 1)) rfl
theorem s_132_47 {K : gC} : gOk K g_Ms mi_132 47 (ga_bin (fun x y => x + y) 48) := gs_iadd (by decide +kernel : decode mi_132.2.1 47 = .ok (.iadd, 1)) rfl
theorem s_132_48 {K : gC} : gOk K g_Ms mi_132 48 (ga_istore 3 49) := gs_istore_n (by decide +kernel : decode mi_132.2.1 48 = .ok (.istore_n 3, 1)) rfl rfl
theorem s_132_49 {K : gC} : gOk K g_Ms mi_132 49 (ga_iinc 4 1 52) := gs_iinc (by decide +kernel : decode mi_132.2.1 49 = .ok (.iinc 4 1, 3)) (by decide) rfl
theorem s_132_52 {K : gC} : gOk K g_Ms mi_132 52 (ga_goto 7) := gs_goto (by decide +kernel : decode mi_132.2.1 52 = .ok (.goto (-45), 3)) (by decide)
theorem s_132_55 {K : gC} : gOk K g_Ms mi_132 55 (ga_iload 1 56) := gs_iload_n (by decide +kernel : decode mi_132.2.1 55 = .ok (.iload_n 1, 1)) rfl rfl
theorem s_132_56 {K : gC} : gOk K g_Ms mi_132 56 (ga_switch 0 [100, 105, 110, 115, 117, 119, 124] 129) := gs_switch (by decide +kernel : decode mi_132.2.1 56 = .ok (.tableswitch 73 0 6 #[44, 49, 54, 59, 61, 63, 68], 44)) (by decide) (by decide) (by decide)
theorem s_132_100 {K : gC} : gOk K g_Ms mi_132 100 (ga_aload 0 101) := gs_aload_n (by decide +kernel : decode mi_132.2.1 100 = .ok (.aload_n 0, 1)) rfl rfl
theorem s_132_101 {K : gC} : gOk K g_Ms mi_132 101 (ga_getI 7 0 104) := gs_getI gcls_7 (by decide) (by decide) gw_656 (by decide +kernel : decode mi_132.2.1 101 = .ok (.getfield 7, 3)) rfl
theorem s_132_104 {K : gC} : gOk K g_Ms mi_132 104 (ga_iret) := gs_iret (by decide +kernel : decode mi_132.2.1 104 = .ok (.ireturn, 1)) rfl
theorem s_132_105 {K : gC} : gOk K g_Ms mi_132 105 (ga_aload 0 106) := gs_aload_n (by decide +kernel : decode mi_132.2.1 105 = .ok (.aload_n 0, 1)) rfl rfl
theorem s_132_106 {K : gC} : gOk K g_Ms mi_132 106 (ga_getI 7 5 109) := gs_getI gcls_7 (by decide) (by decide) gw_661 (by decide +kernel : decode mi_132.2.1 106 = .ok (.getfield 160, 3)) rfl
theorem s_132_109 {K : gC} : gOk K g_Ms mi_132 109 (ga_iret) := gs_iret (by decide +kernel : decode mi_132.2.1 109 = .ok (.ireturn, 1)) rfl
theorem s_132_110 {K : gC} : gOk K g_Ms mi_132 110 (ga_aload 0 111) := gs_aload_n (by decide +kernel : decode mi_132.2.1 110 = .ok (.aload_n 0, 1)) rfl rfl
theorem s_132_111 {K : gC} : gOk K g_Ms mi_132 111 (ga_getI 7 21 114) := gs_getI gcls_7 (by decide) (by decide) gw_677 (by decide +kernel : decode mi_132.2.1 111 = .ok (.getfield 166, 3)) rfl
theorem s_132_114 {K : gC} : gOk K g_Ms mi_132 114 (ga_iret) := gs_iret (by decide +kernel : decode mi_132.2.1 114 = .ok (.ireturn, 1)) rfl
theorem s_132_115 {K : gC} : gOk K g_Ms mi_132 115 (ga_iload 2 116) := gs_iload_n (by decide +kernel : decode mi_132.2.1 115 = .ok (.iload_n 2, 1)) rfl rfl
theorem s_132_116 {K : gC} : gOk K g_Ms mi_132 116 (ga_iret) := gs_iret (by decide +kernel : decode mi_132.2.1 116 = .ok (.ireturn, 1)) rfl
theorem s_132_117 {K : gC} : gOk K g_Ms mi_132 117 (ga_iload 3 118) := gs_iload_n (by decide +kernel : decode mi_132.2.1 117 = .ok (.iload_n 3, 1)) rfl rfl
theorem s_132_118 {K : gC} : gOk K g_Ms mi_132 118 (ga_iret) := gs_iret (by decide +kernel : decode mi_132.2.1 118 = .ok (.ireturn, 1)) rfl
theorem s_132_119 {K : gC} : gOk K g_Ms mi_132 119 (ga_aload 0 120) := gs_aload_n (by decide +kernel : decode mi_132.2.1 119 = .ok (.aload_n 0, 1)) rfl rfl
theorem s_132_120 {K : gC} : gOk K g_Ms mi_132 120 (ga_getI 7 24 123) := gs_getI gcls_7 (by decide) (by decide) gw_680 (by decide +kernel : decode mi_132.2.1 120 = .ok (.getfield 169, 3)) rfl
theorem s_132_123 {K : gC} : gOk K g_Ms mi_132 123 (ga_iret) := gs_iret (by decide +kernel : decode mi_132.2.1 123 = .ok (.ireturn, 1)) rfl
theorem s_132_124 {K : gC} : gOk K g_Ms mi_132 124 (ga_aload 0 125) := gs_aload_n (by decide +kernel : decode mi_132.2.1 124 = .ok (.aload_n 0, 1)) rfl rfl
theorem s_132_125 {K : gC} : gOk K g_Ms mi_132 125 (ga_getI 7 7 128) := gs_getI gcls_7 (by decide) (by decide) gw_663 (by decide +kernel : decode mi_132.2.1 125 = .ok (.getfield 72, 3)) rfl
theorem s_132_128 {K : gC} : gOk K g_Ms mi_132 128 (ga_iret) := gs_iret (by decide +kernel : decode mi_132.2.1 128 = .ok (.ireturn, 1)) rfl
theorem s_132_129 {K : gC} : gOk K g_Ms mi_132 129 (ga_push (.int (-3)) 131) := gs_bipush (by decide +kernel : decode mi_132.2.1 129 = .ok (.bipush (-3), 2)) (by decide) rfl
theorem s_132_131 {K : gC} : gOk K g_Ms mi_132 131 (ga_iret) := gs_iret (by decide +kernel : decode mi_132.2.1 131 = .ok (.ireturn, 1)) rfl
theorem ok_132 {K : gC} : ∀ e ∈ t_132, gOk K g_Ms mi_132 e.1 e.2 := by
  unfold t_132
  simp only [List.forall_mem_cons, List.not_mem_nil, false_implies, implies_true, and_true]
  exact ⟨s_132_0, s_132_1, s_132_2, s_132_3, s_132_4, s_132_5, s_132_7, s_132_9, s_132_10, s_132_13, s_132_16, s_132_17, s_132_18, s_132_21, s_132_23, s_132_24, s_132_25, s_132_26, s_132_29, s_132_30, s_132_32, s_132_33, s_132_36, s_132_37, s_132_38, s_132_39, s_132_40, s_132_41, s_132_44, s_132_46, s_132_47, s_132_48, s_132_49, s_132_52, s_132_55, s_132_56, s_132_100, s_132_101, s_132_104, s_132_105, s_132_106, s_132_109, s_132_110, s_132_111, s_132_114, s_132_115, s_132_116, s_132_117, s_132_118, s_132_119, s_132_120, s_132_123, s_132_124, s_132_125, s_132_128, s_132_129, s_132_131⟩
