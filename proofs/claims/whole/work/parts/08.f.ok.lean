theorem s_142_0 {K : gC} : gOk K g_Ms mi_142 0 (ga_new 6 8 3) := gs_new gcls_6 gw_53 (by decide +kernel : decode mi_142.2.1 0 = .ok (.new 7, 3)) rfl
theorem s_142_3 {K : gC} : gOk K g_Ms mi_142 3 (ga_dup 4) := gs_dup (by decide +kernel : decode mi_142.2.1 3 = .ok (.dup, 1)) rfl
theorem s_142_4 {K : gC} : gOk K g_Ms mi_142 4 (ga_callI 52 0 7) := gs_callI (gce_X6_init (by decide) (by decide)) gw_55 gw_56 rfl rfl (by decide +kernel : decode mi_142.2.1 4 = .ok (.invokespecial 9, 3)) rfl
theorem s_142_7 {K : gC} : gOk K g_Ms mi_142 7 (ga_astore 1 8) := gs_astore_n (by decide +kernel : decode mi_142.2.1 7 = .ok (.astore_n 1, 1)) rfl rfl
theorem s_142_8 {K : gC} : gOk K g_Ms mi_142 8 (ga_new 7 30 11) := gs_new gcls_7 gw_646 (by decide +kernel : decode mi_142.2.1 8 = .ok (.new 10, 3)) rfl
theorem s_142_11 {K : gC} : gOk K g_Ms mi_142 11 (ga_dup 12) := gs_dup (by decide +kernel : decode mi_142.2.1 11 = .ok (.dup, 1)) rfl
theorem s_142_12 {K : gC} : gOk K g_Ms mi_142 12 (ga_callI 82 0 15) := gs_callI (gce_X7_init (by decide) (by decide)) gw_648 gw_649 rfl rfl (by decide +kernel : decode mi_142.2.1 12 = .ok (.invokespecial 12, 3)) rfl
theorem s_142_15 {K : gC} : gOk K g_Ms mi_142 15 (ga_astore 2 16) := gs_astore_n (by decide +kernel : decode mi_142.2.1 15 = .ok (.astore_n 2, 1)) rfl rfl
theorem s_142_16 {K : gC} : gOk K g_Ms mi_142 16 (ga_push (.int 0) 17) := gs_iconst (by decide +kernel : decode mi_142.2.1 16 = .ok (.iconst 0, 1)) (by decide) rfl
theorem s_142_17 {K : gC} : gOk K g_Ms mi_142 17 (ga_istore 3 18) := gs_istore_n (by decide +kernel : decode mi_142.2.1 17 = .ok (.istore_n 3, 1)) rfl rfl
theorem s_142_18 {K : gC} : gOk K g_Ms mi_142 18 (ga_iload 3 19) := gs_iload_n (by decide +kernel : decode mi_142.2.1 18 = .ok (.iload_n 3, 1)) rfl rfl
theorem s_142_19 {K : gC} : gOk K g_Ms mi_142 19 (ga_aload 0 20) := gs_aload_n (by decide +kernel : decode mi_142.2.1 19 = .ok (.aload_n 0, 1)) rfl rfl
theorem s_142_20 {K : gC} : gOk K g_Ms mi_142 20 (ga_alen 21) := gs_alen (by decide +kernel : decode mi_142.2.1 20 = .ok (.arraylength, 1)) rfl
theorem s_142_21 {K : gC} : gOk K g_Ms mi_142 21 (ga_push (.int 5) 22) := gs_iconst (by decide +kernel : decode mi_142.2.1 21 = .ok (.iconst 5, 1)) (by decide) rfl
theorem s_142_22 {K : gC} : gOk K g_Ms mi_142 22 (ga_bin (fun x y => x - y) 23) := gs_isub (by decide +kernel : decode mi_142.2.1 22 = .ok (.isub, 1)) rfl
theorem s_142_23 {K : gC} : gOk K g_Ms mi_142 23 (ga_cmp (fun x y => decide (y < x)) 899 26) := gs_cmp_gt (by decide +kernel : decode mi_142.2.1 23 = .ok (.if_icmp .gt 876, 3)) (by decide) rfl
theorem s_142_26 {K : gC} : gOk K g_Ms mi_142 26 (ga_aload 0 27) := gs_aload_n (by decide +kernel : decode mi_142.2.1 26 = .ok (.aload_n 0, 1)) rfl rfl
theorem s_142_27 {K : gC} : gOk K g_Ms mi_142 27 (ga_iload 3 28) := gs_iload_n (by decide +kernel : decode mi_142.2.1 27 = .ok (.iload_n 3, 1)) rfl rfl
theorem s_142_28 {K : gC} : gOk K g_Ms mi_142 28 (ga_iald 29) := gs_iald (by decide +kernel : decode mi_142.2.1 28 = .ok (.iaload, 1)) rfl
theorem s_142_29 {K : gC} : gOk K g_Ms mi_142 29 (ga_push (.int 31) 31) := gs_bipush (by decide +kernel : decode mi_142.2.1 29 = .ok (.bipush 31, 2)) (by decide) rfl
theorem s_142_31 {K : gC} : gOk K g_Ms mi_142 31 (ga_bin (fun x y => x &&& y) 32) := gs_iand (by decide +kernel : decode mi_142.2.1 31 = .ok (.iand, 1)) rfl
theorem s_142_32 {K : gC} : gOk K g_Ms mi_142 32 (ga_switch 0 [148, 211, 224, 237, 250, 283, 316, 349, 372, 395, 418, 441, 464, 497, 520, 543, 566, 609, 652, 705, 738, 791, 824, 837, 870] 893) := gs_switch (by decide +kernel : decode mi_142.2.1 32 = .ok (.tableswitch 861 0 24 #[116, 179, 192, 205, 218, 251, 284, 317, 340, 363, 386, 409, 432, 465, 488, 511, 534, 577, 620, 673, 706, 759, 792, 805, 838], 116)) (by decide) (by decide) (by decide)
theorem s_142_148 {K : gC} : gOk K g_Ms mi_142 148 (ga_aload 1 149) := gs_aload_n (by decide +kernel : decode mi_142.2.1 148 = .ok (.aload_n 1, 1)) rfl rfl
theorem s_142_149 {K : gC} : gOk K g_Ms mi_142 149 (ga_aload 0 150) := gs_aload_n (by decide +kernel : decode mi_142.2.1 149 = .ok (.aload_n 0, 1)) rfl rfl
theorem s_142_150 {K : gC} : gOk K g_Ms mi_142 150 (ga_iload 3 151) := gs_iload_n (by decide +kernel : decode mi_142.2.1 150 = .ok (.iload_n 3, 1)) rfl rfl
theorem s_142_151 {K : gC} : gOk K g_Ms mi_142 151 (ga_push (.int 1) 152) := gs_iconst (by decide +kernel : decode mi_142.2.1 151 = .ok (.iconst 1, 1)) (by decide) rfl
theorem s_142_152 {K : gC} : gOk K g_Ms mi_142 152 (ga_bin (fun x y => x + y) 153) := gs_iadd (by decide +kernel : decode mi_142.2.1 152 = .ok (.iadd, 1)) rfl
theorem s_142_153 {K : gC} : gOk K g_Ms mi_142 153 (ga_iald 154) := gs_iald (by decide +kernel : decode mi_142.2.1 153 = .ok (.iaload, 1)) rfl
theorem s_142_154 {K : gC} : gOk K g_Ms mi_142 154 (ga_i2l 155) := gs_i2l (by decide +kernel : decode mi_142.2.1 154 = .ok (.i2l, 1)) rfl
theorem s_142_155 {K : gC} : gOk K g_Ms mi_142 155 (ga_push (.int 32) 157) := gs_bipush (by decide +kernel : decode mi_142.2.1 155 = .ok (.bipush 32, 2)) (by decide) rfl
theorem s_142_157 {K : gC} : gOk K g_Ms mi_142 157 (ga_lsh (fun x y => x <<< (y.toInt64 &&& 63)) 158) := gs_lshl (by decide +kernel : decode mi_142.2.1 157 = .ok (.lshl, 1)) rfl
theorem s_142_158 {K : gC} : gOk K g_Ms mi_142 158 (ga_aload 0 159) := gs_aload_n (by decide +kernel : decode mi_142.2.1 158 = .ok (.aload_n 0, 1)) rfl rfl
theorem s_142_159 {K : gC} : gOk K g_Ms mi_142 159 (ga_iload 3 160) := gs_iload_n (by decide +kernel : decode mi_142.2.1 159 = .ok (.iload_n 3, 1)) rfl rfl
theorem s_142_160 {K : gC} : gOk K g_Ms mi_142 160 (ga_push (.int 2) 161) := gs_iconst (by decide +kernel : decode mi_142.2.1 160 = .ok (.iconst 2, 1)) (by decide) rfl
theorem s_142_161 {K : gC} : gOk K g_Ms mi_142 161 (ga_bin (fun x y => x + y) 162) := gs_iadd (by decide +kernel : decode mi_142.2.1 161 = .ok (.iadd, 1)) rfl
theorem s_142_162 {K : gC} : gOk K g_Ms mi_142 162 (ga_iald 163) := gs_iald (by decide +kernel : decode mi_142.2.1 162 = .ok (.iaload, 1)) rfl
theorem s_142_163 {K : gC} : gOk K g_Ms mi_142 163 (ga_i2l 164) := gs_i2l (by decide +kernel : decode mi_142.2.1 163 = .ok (.i2l, 1)) rfl
theorem s_142_164 {K : gC} : gOk K g_Ms mi_142 164 (ga_push (.long 4294967295) 167) := gs_ldc2 (by decide +kernel : decode mi_142.2.1 164 = .ok (.ldc2_w 13, 3)) gw_958 rfl
theorem s_142_167 {K : gC} : gOk K g_Ms mi_142 167 (ga_lbin (fun x y => x &&& y) 168) := gs_land (by decide +kernel : decode mi_142.2.1 167 = .ok (.land, 1)) rfl
theorem s_142_168 {K : gC} : gOk K g_Ms mi_142 168 (ga_lbin (fun x y => x ||| y) 169) := gs_lor (by decide +kernel : decode mi_142.2.1 168 = .ok (.lor, 1)) rfl
theorem s_142_169 {K : gC} : gOk K g_Ms mi_142 169 (ga_aload 0 170) := gs_aload_n (by decide +kernel : decode mi_142.2.1 169 = .ok (.aload_n 0, 1)) rfl rfl
theorem s_142_170 {K : gC} : gOk K g_Ms mi_142 170 (ga_iload 3 171) := gs_iload_n (by decide +kernel : decode mi_142.2.1 170 = .ok (.iload_n 3, 1)) rfl rfl
theorem s_142_171 {K : gC} : gOk K g_Ms mi_142 171 (ga_push (.int 3) 172) := gs_iconst (by decide +kernel : decode mi_142.2.1 171 = .ok (.iconst 3, 1)) (by decide) rfl
theorem s_142_172 {K : gC} : gOk K g_Ms mi_142 172 (ga_bin (fun x y => x + y) 173) := gs_iadd (by decide +kernel : decode mi_142.2.1 172 = .ok (.iadd, 1)) rfl
theorem s_142_173 {K : gC} : gOk K g_Ms mi_142 173 (ga_iald 174) := gs_iald (by decide +kernel : decode mi_142.2.1 173 = .ok (.iaload, 1)) rfl
theorem s_142_174 {K : gC} : gOk K g_Ms mi_142 174 (ga_callV 6 53 2 177) := gs_callV gcls_6 (gce_X6_write (by decide) (by decide)) gw_267 gw_268 gw_269 (by decide +kernel : decode mi_142.2.1 174 = .ok (.invokevirtual 15, 3)) rfl
theorem s_142_177 {K : gC} : gOk K g_Ms mi_142 177 (ga_aload 2 178) := gs_aload_n (by decide +kernel : decode mi_142.2.1 177 = .ok (.aload_n 2, 1)) rfl rfl
theorem s_142_178 {K : gC} : gOk K g_Ms mi_142 178 (ga_aload 0 179) := gs_aload_n (by decide +kernel : decode mi_142.2.1 178 = .ok (.aload_n 0, 1)) rfl rfl
theorem s_142_179 {K : gC} : gOk K g_Ms mi_142 179 (ga_iload 3 180) := gs_iload_n (by decide +kernel : decode mi_142.2.1 179 = .ok (.iload_n 3, 1)) rfl rfl
theorem s_142_180 {K : gC} : gOk K g_Ms mi_142 180 (ga_push (.int 1) 181) := gs_iconst (by decide +kernel : decode mi_142.2.1 180 = .ok (.iconst 1, 1)) (by decide) rfl
theorem s_142_181 {K : gC} : gOk K g_Ms mi_142 181 (ga_bin (fun x y => x + y) 182) := gs_iadd (by decide +kernel : decode mi_142.2.1 181 = .ok (.iadd, 1)) rfl
theorem s_142_182 {K : gC} : gOk K g_Ms mi_142 182 (ga_iald 183) := gs_iald (by decide +kernel : decode mi_142.2.1 182 = .ok (.iaload, 1)) rfl
theorem s_142_183 {K : gC} : gOk K g_Ms mi_142 183 (ga_i2l 184) := gs_i2l (by decide +kernel : decode mi_142.2.1 183 = .ok (.i2l, 1)) rfl
theorem s_142_184 {K : gC} : gOk K g_Ms mi_142 184 (ga_push (.int 32) 186) := gs_bipush (by decide +kernel : decode mi_142.2.1 184 = .ok (.bipush 32, 2)) (by decide) rfl
theorem s_142_186 {K : gC} : gOk K g_Ms mi_142 186 (ga_lsh (fun x y => x <<< (y.toInt64 &&& 63)) 187) := gs_lshl (by decide +kernel : decode mi_142.2.1 186 = .ok (.lshl, 1)) rfl
theorem s_142_187 {K : gC} : gOk K g_Ms mi_142 187 (ga_aload 0 188) := gs_aload_n (by decide +kernel : decode mi_142.2.1 187 = .ok (.aload_n 0, 1)) rfl rfl
theorem s_142_188 {K : gC} : gOk K g_Ms mi_142 188 (ga_iload 3 189) := gs_iload_n (by decide +kernel : decode mi_142.2.1 188 = .ok (.iload_n 3, 1)) rfl rfl
theorem s_142_189 {K : gC} : gOk K g_Ms mi_142 189 (ga_push (.int 2) 190) := gs_iconst (by decide +kernel : decode mi_142.2.1 189 = .ok (.iconst 2, 1)) (by decide) rfl
theorem s_142_190 {K : gC} : gOk K g_Ms mi_142 190 (ga_bin (fun x y => x + y) 191) := gs_iadd (by decide +kernel : decode mi_142.2.1 190 = .ok (.iadd, 1)) rfl
theorem s_142_191 {K : gC} : gOk K g_Ms mi_142 191 (ga_iald 192) := gs_iald (by decide +kernel : decode mi_142.2.1 191 = .ok (.iaload, 1)) rfl
theorem s_142_192 {K : gC} : gOk K g_Ms mi_142 192 (ga_i2l 193) := gs_i2l (by decide +kernel : decode mi_142.2.1 192 = .ok (.i2l, 1)) rfl
theorem s_142_193 {K : gC} : gOk K g_Ms mi_142 193 (ga_push (.long 4294967295) 196) := gs_ldc2 (by decide +kernel : decode mi_142.2.1 193 = .ok (.ldc2_w 13, 3)) gw_958 rfl
theorem s_142_196 {K : gC} : gOk K g_Ms mi_142 196 (ga_lbin (fun x y => x &&& y) 197) := gs_land (by decide +kernel : decode mi_142.2.1 196 = .ok (.land, 1)) rfl
theorem s_142_197 {K : gC} : gOk K g_Ms mi_142 197 (ga_lbin (fun x y => x ||| y) 198) := gs_lor (by decide +kernel : decode mi_142.2.1 197 = .ok (.lor, 1)) rfl
theorem s_142_198 {K : gC} : gOk K g_Ms mi_142 198 (ga_aload 0 199) := gs_aload_n (by decide +kernel : decode mi_142.2.1 198 = .ok (.aload_n 0, 1)) rfl rfl
theorem s_142_199 {K : gC} : gOk K g_Ms mi_142 199 (ga_iload 3 200) := gs_iload_n (by decide +kernel : decode mi_142.2.1 199 = .ok (.iload_n 3, 1)) rfl rfl
theorem s_142_200 {K : gC} : gOk K g_Ms mi_142 200 (ga_push (.int 3) 201) := gs_iconst (by decide +kernel : decode mi_142.2.1 200 = .ok (.iconst 3, 1)) (by decide) rfl
theorem s_142_201 {K : gC} : gOk K g_Ms mi_142 201 (ga_bin (fun x y => x + y) 202) := gs_iadd (by decide +kernel : decode mi_142.2.1 201 = .ok (.iadd, 1)) rfl
theorem s_142_202 {K : gC} : gOk K g_Ms mi_142 202 (ga_iald 203) := gs_iald (by decide +kernel : decode mi_142.2.1 202 = .ok (.iaload, 1)) rfl
theorem s_142_203 {K : gC} : gOk K g_Ms mi_142 203 (ga_callV 7 87 2 206) := gs_callV gcls_7 (gce_X7_write (by decide) (by decide)) gw_747 gw_748 gw_749 (by decide +kernel : decode mi_142.2.1 203 = .ok (.invokevirtual 19, 3)) rfl
theorem s_142_206 {K : gC} : gOk K g_Ms mi_142 206 (ga_cmp (fun x y => decide (x = y)) 893 209) := gs_cmp_eq (by decide +kernel : decode mi_142.2.1 206 = .ok (.if_icmp .eq 687, 3)) (by decide) rfl
theorem s_142_209 {K : gC} : gOk K g_Ms mi_142 209 (ga_push (.int 0) 210) := gs_iconst (by decide +kernel : decode mi_142.2.1 209 = .ok (.iconst 0, 1)) (by decide) rfl
theorem s_142_210 {K : gC} : gOk K g_Ms mi_142 210 (ga_zret) := gs_zret (by decide +kernel : decode mi_142.2.1 210 = .ok (.ireturn, 1)) rfl rfl rfl
theorem s_142_211 {K : gC} : gOk K g_Ms mi_142 211 (ga_aload 1 212) := gs_aload_n (by decide +kernel : decode mi_142.2.1 211 = .ok (.aload_n 1, 1)) rfl rfl
theorem s_142_212 {K : gC} : gOk K g_Ms mi_142 212 (ga_callV 6 54 0 215) := gs_callV gcls_6 (gce_X6_erase (by decide) (by decide)) gw_276 gw_277 gw_278 (by decide +kernel : decode mi_142.2.1 212 = .ok (.invokevirtual 20, 3)) rfl
theorem s_142_215 {K : gC} : gOk K g_Ms mi_142 215 (ga_aload 2 216) := gs_aload_n (by decide +kernel : decode mi_142.2.1 215 = .ok (.aload_n 2, 1)) rfl rfl
theorem s_142_216 {K : gC} : gOk K g_Ms mi_142 216 (ga_callV 7 88 0 219) := gs_callV gcls_7 (gce_X7_erase (by decide) (by decide)) gw_755 gw_756 gw_757 (by decide +kernel : decode mi_142.2.1 216 = .ok (.invokevirtual 24, 3)) rfl
theorem s_142_219 {K : gC} : gOk K g_Ms mi_142 219 (ga_cmp (fun x y => decide (x = y)) 893 222) := gs_cmp_eq (by decide +kernel : decode mi_142.2.1 219 = .ok (.if_icmp .eq 674, 3)) (by decide) rfl
theorem s_142_222 {K : gC} : gOk K g_Ms mi_142 222 (ga_push (.int 0) 223) := gs_iconst (by decide +kernel : decode mi_142.2.1 222 = .ok (.iconst 0, 1)) (by decide) rfl
theorem s_142_223 {K : gC} : gOk K g_Ms mi_142 223 (ga_zret) := gs_zret (by decide +kernel : decode mi_142.2.1 223 = .ok (.ireturn, 1)) rfl rfl rfl
theorem s_142_224 {K : gC} : gOk K g_Ms mi_142 224 (ga_aload 1 225) := gs_aload_n (by decide +kernel : decode mi_142.2.1 224 = .ok (.aload_n 1, 1)) rfl rfl
theorem s_142_225 {K : gC} : gOk K g_Ms mi_142 225 (ga_callV 6 55 0 228) := gs_callV gcls_6 (gce_X6_fault (by decide) (by decide)) gw_280 gw_281 gw_282 (by decide +kernel : decode mi_142.2.1 225 = .ok (.invokevirtual 25, 3)) rfl
theorem s_142_228 {K : gC} : gOk K g_Ms mi_142 228 (ga_aload 2 229) := gs_aload_n (by decide +kernel : decode mi_142.2.1 228 = .ok (.aload_n 2, 1)) rfl rfl
theorem s_142_229 {K : gC} : gOk K g_Ms mi_142 229 (ga_callV 7 96 0 232) := gs_callV gcls_7 (gce_X7_fault (by decide) (by decide)) gw_759 gw_760 gw_761 (by decide +kernel : decode mi_142.2.1 229 = .ok (.invokevirtual 28, 3)) rfl
theorem s_142_232 {K : gC} : gOk K g_Ms mi_142 232 (ga_cmp (fun x y => decide (x = y)) 893 235) := gs_cmp_eq (by decide +kernel : decode mi_142.2.1 232 = .ok (.if_icmp .eq 661, 3)) (by decide) rfl
theorem s_142_235 {K : gC} : gOk K g_Ms mi_142 235 (ga_push (.int 0) 236) := gs_iconst (by decide +kernel : decode mi_142.2.1 235 = .ok (.iconst 0, 1)) (by decide) rfl
theorem s_142_236 {K : gC} : gOk K g_Ms mi_142 236 (ga_zret) := gs_zret (by decide +kernel : decode mi_142.2.1 236 = .ok (.ireturn, 1)) rfl rfl rfl
theorem s_142_237 {K : gC} : gOk K g_Ms mi_142 237 (ga_aload 1 238) := gs_aload_n (by decide +kernel : decode mi_142.2.1 237 = .ok (.aload_n 1, 1)) rfl rfl
theorem s_142_238 {K : gC} : gOk K g_Ms mi_142 238 (ga_callV 6 56 0 241) := gs_callV gcls_6 (gce_X6_cloister (by decide) (by decide)) gw_404 gw_405 gw_406 (by decide +kernel : decode mi_142.2.1 238 = .ok (.invokevirtual 29, 3)) rfl
theorem s_142_241 {K : gC} : gOk K g_Ms mi_142 241 (ga_aload 2 242) := gs_aload_n (by decide +kernel : decode mi_142.2.1 241 = .ok (.aload_n 2, 1)) rfl rfl
theorem s_142_242 {K : gC} : gOk K g_Ms mi_142 242 (ga_callV 7 98 0 245) := gs_callV gcls_7 (gce_X7_cloister (by decide) (by decide)) gw_807 gw_808 gw_809 (by decide +kernel : decode mi_142.2.1 242 = .ok (.invokevirtual 32, 3)) rfl
theorem s_142_245 {K : gC} : gOk K g_Ms mi_142 245 (ga_cmp (fun x y => decide (x = y)) 893 248) := gs_cmp_eq (by decide +kernel : decode mi_142.2.1 245 = .ok (.if_icmp .eq 648, 3)) (by decide) rfl
theorem s_142_248 {K : gC} : gOk K g_Ms mi_142 248 (ga_push (.int 0) 249) := gs_iconst (by decide +kernel : decode mi_142.2.1 248 = .ok (.iconst 0, 1)) (by decide) rfl
theorem s_142_249 {K : gC} : gOk K g_Ms mi_142 249 (ga_zret) := gs_zret (by decide +kernel : decode mi_142.2.1 249 = .ok (.ireturn, 1)) rfl rfl rfl
theorem s_142_250 {K : gC} : gOk K g_Ms mi_142 250 (ga_aload 1 251) := gs_aload_n (by decide +kernel : decode mi_142.2.1 250 = .ok (.aload_n 1, 1)) rfl rfl
theorem s_142_251 {K : gC} : gOk K g_Ms mi_142 251 (ga_aload 0 252) := gs_aload_n (by decide +kernel : decode mi_142.2.1 251 = .ok (.aload_n 0, 1)) rfl rfl
theorem s_142_252 {K : gC} : gOk K g_Ms mi_142 252 (ga_iload 3 253) := gs_iload_n (by decide +kernel : decode mi_142.2.1 252 = .ok (.iload_n 3, 1)) rfl rfl
theorem s_142_253 {K : gC} : gOk K g_Ms mi_142 253 (ga_push (.int 1) 254) := gs_iconst (by decide +kernel : decode mi_142.2.1 253 = .ok (.iconst 1, 1)) (by decide) rfl
theorem s_142_254 {K : gC} : gOk K g_Ms mi_142 254 (ga_bin (fun x y => x + y) 255) := gs_iadd (by decide +kernel : decode mi_142.2.1 254 = .ok (.iadd, 1)) rfl
theorem s_142_255 {K : gC} : gOk K g_Ms mi_142 255 (ga_iald 256) := gs_iald (by decide +kernel : decode mi_142.2.1 255 = .ok (.iaload, 1)) rfl
theorem s_142_256 {K : gC} : gOk K g_Ms mi_142 256 (ga_aload 0 257) := gs_aload_n (by decide +kernel : decode mi_142.2.1 256 = .ok (.aload_n 0, 1)) rfl rfl
theorem s_142_257 {K : gC} : gOk K g_Ms mi_142 257 (ga_iload 3 258) := gs_iload_n (by decide +kernel : decode mi_142.2.1 257 = .ok (.iload_n 3, 1)) rfl rfl
theorem s_142_258 {K : gC} : gOk K g_Ms mi_142 258 (ga_push (.int 2) 259) := gs_iconst (by decide +kernel : decode mi_142.2.1 258 = .ok (.iconst 2, 1)) (by decide) rfl
theorem s_142_259 {K : gC} : gOk K g_Ms mi_142 259 (ga_bin (fun x y => x + y) 260) := gs_iadd (by decide +kernel : decode mi_142.2.1 259 = .ok (.iadd, 1)) rfl
theorem s_142_260 {K : gC} : gOk K g_Ms mi_142 260 (ga_iald 261) := gs_iald (by decide +kernel : decode mi_142.2.1 260 = .ok (.iaload, 1)) rfl
theorem s_142_261 {K : gC} : gOk K g_Ms mi_142 261 (ga_callV 6 57 2 264) := gs_callV gcls_6 (gce_X6_gong (by decide) (by decide)) gw_412 gw_413 gw_414 (by decide +kernel : decode mi_142.2.1 261 = .ok (.invokevirtual 33, 3)) rfl
theorem s_142_264 {K : gC} : gOk K g_Ms mi_142 264 (ga_aload 2 265) := gs_aload_n (by decide +kernel : decode mi_142.2.1 264 = .ok (.aload_n 2, 1)) rfl rfl
theorem s_142_265 {K : gC} : gOk K g_Ms mi_142 265 (ga_aload 0 266) := gs_aload_n (by decide +kernel : decode mi_142.2.1 265 = .ok (.aload_n 0, 1)) rfl rfl
theorem s_142_266 {K : gC} : gOk K g_Ms mi_142 266 (ga_iload 3 267) := gs_iload_n (by decide +kernel : decode mi_142.2.1 266 = .ok (.iload_n 3, 1)) rfl rfl
theorem s_142_267 {K : gC} : gOk K g_Ms mi_142 267 (ga_push (.int 1) 268) := gs_iconst (by decide +kernel : decode mi_142.2.1 267 = .ok (.iconst 1, 1)) (by decide) rfl
theorem s_142_268 {K : gC} : gOk K g_Ms mi_142 268 (ga_bin (fun x y => x + y) 269) := gs_iadd (by decide +kernel : decode mi_142.2.1 268 = .ok (.iadd, 1)) rfl
theorem s_142_269 {K : gC} : gOk K g_Ms mi_142 269 (ga_iald 270) := gs_iald (by decide +kernel : decode mi_142.2.1 269 = .ok (.iaload, 1)) rfl
theorem s_142_270 {K : gC} : gOk K g_Ms mi_142 270 (ga_aload 0 271) := gs_aload_n (by decide +kernel : decode mi_142.2.1 270 = .ok (.aload_n 0, 1)) rfl rfl
theorem s_142_271 {K : gC} : gOk K g_Ms mi_142 271 (ga_iload 3 272) := gs_iload_n (by decide +kernel : decode mi_142.2.1 271 = .ok (.iload_n 3, 1)) rfl rfl
theorem s_142_272 {K : gC} : gOk K g_Ms mi_142 272 (ga_push (.int 2) 273) := gs_iconst (by decide +kernel : decode mi_142.2.1 272 = .ok (.iconst 2, 1)) (by decide) rfl
theorem s_142_273 {K : gC} : gOk K g_Ms mi_142 273 (ga_bin (fun x y => x + y) 274) := gs_iadd (by decide +kernel : decode mi_142.2.1 273 = .ok (.iadd, 1)) rfl
theorem s_142_274 {K : gC} : gOk K g_Ms mi_142 274 (ga_iald 275) := gs_iald (by decide +kernel : decode mi_142.2.1 274 = .ok (.iaload, 1)) rfl
theorem s_142_275 {K : gC} : gOk K g_Ms mi_142 275 (ga_callV 7 101 2 278) := gs_callV gcls_7 (gce_X7_gong (by decide) (by decide)) gw_815 gw_816 gw_817 (by decide +kernel : decode mi_142.2.1 275 = .ok (.invokevirtual 37, 3)) rfl
theorem s_142_278 {K : gC} : gOk K g_Ms mi_142 278 (ga_cmp (fun x y => decide (x = y)) 893 281) := gs_cmp_eq (by decide +kernel : decode mi_142.2.1 278 = .ok (.if_icmp .eq 615, 3)) (by decide) rfl
theorem s_142_281 {K : gC} : gOk K g_Ms mi_142 281 (ga_push (.int 0) 282) := gs_iconst (by decide +kernel : decode mi_142.2.1 281 = .ok (.iconst 0, 1)) (by decide) rfl
theorem s_142_282 {K : gC} : gOk K g_Ms mi_142 282 (ga_zret) := gs_zret (by decide +kernel : decode mi_142.2.1 282 = .ok (.ireturn, 1)) rfl rfl rfl
theorem s_142_283 {K : gC} : gOk K g_Ms mi_142 283 (ga_aload 1 284) := gs_aload_n (by decide +kernel : decode mi_142.2.1 283 = .ok (.aload_n 1, 1)) rfl rfl
theorem s_142_284 {K : gC} : gOk K g_Ms mi_142 284 (ga_aload 0 285) := gs_aload_n (by decide +kernel : decode mi_142.2.1 284 = .ok (.aload_n 0, 1)) rfl rfl
theorem s_142_285 {K : gC} : gOk K g_Ms mi_142 285 (ga_iload 3 286) := gs_iload_n (by decide +kernel : decode mi_142.2.1 285 = .ok (.iload_n 3, 1)) rfl rfl
theorem s_142_286 {K : gC} : gOk K g_Ms mi_142 286 (ga_push (.int 1) 287) := gs_iconst (by decide +kernel : decode mi_142.2.1 286 = .ok (.iconst 1, 1)) (by decide) rfl
theorem s_142_287 {K : gC} : gOk K g_Ms mi_142 287 (ga_bin (fun x y => x + y) 288) := gs_iadd (by decide +kernel : decode mi_142.2.1 287 = .ok (.iadd, 1)) rfl
theorem s_142_288 {K : gC} : gOk K g_Ms mi_142 288 (ga_iald 289) := gs_iald (by decide +kernel : decode mi_142.2.1 288 = .ok (.iaload, 1)) rfl
theorem s_142_289 {K : gC} : gOk K g_Ms mi_142 289 (ga_aload 0 290) := gs_aload_n (by decide +kernel : decode mi_142.2.1 289 = .ok (.aload_n 0, 1)) rfl rfl
theorem s_142_290 {K : gC} : gOk K g_Ms mi_142 290 (ga_iload 3 291) := gs_iload_n (by decide +kernel : decode mi_142.2.1 290 = .ok (.iload_n 3, 1)) rfl rfl
theorem s_142_291 {K : gC} : gOk K g_Ms mi_142 291 (ga_push (.int 2) 292) := gs_iconst (by decide +kernel : decode mi_142.2.1 291 = .ok (.iconst 2, 1)) (by decide) rfl
theorem s_142_292 {K : gC} : gOk K g_Ms mi_142 292 (ga_bin (fun x y => x + y) 293) := gs_iadd (by decide +kernel : decode mi_142.2.1 292 = .ok (.iadd, 1)) rfl
theorem s_142_293 {K : gC} : gOk K g_Ms mi_142 293 (ga_iald 294) := gs_iald (by decide +kernel : decode mi_142.2.1 293 = .ok (.iaload, 1)) rfl
theorem s_142_294 {K : gC} : gOk K g_Ms mi_142 294 (ga_callV 6 58 2 297) := gs_callV gcls_6 (gce_X6_monk (by decide) (by decide)) gw_428 gw_429 gw_430 (by decide +kernel : decode mi_142.2.1 294 = .ok (.invokevirtual 38, 3)) rfl
theorem s_142_297 {K : gC} : gOk K g_Ms mi_142 297 (ga_aload 2 298) := gs_aload_n (by decide +kernel : decode mi_142.2.1 297 = .ok (.aload_n 2, 1)) rfl rfl
theorem s_142_298 {K : gC} : gOk K g_Ms mi_142 298 (ga_aload 0 299) := gs_aload_n (by decide +kernel : decode mi_142.2.1 298 = .ok (.aload_n 0, 1)) rfl rfl
theorem s_142_299 {K : gC} : gOk K g_Ms mi_142 299 (ga_iload 3 300) := gs_iload_n (by decide +kernel : decode mi_142.2.1 299 = .ok (.iload_n 3, 1)) rfl rfl
theorem s_142_300 {K : gC} : gOk K g_Ms mi_142 300 (ga_push (.int 1) 301) := gs_iconst (by decide +kernel : decode mi_142.2.1 300 = .ok (.iconst 1, 1)) (by decide) rfl
theorem s_142_301 {K : gC} : gOk K g_Ms mi_142 301 (ga_bin (fun x y => x + y) 302) := gs_iadd (by decide +kernel : decode mi_142.2.1 301 = .ok (.iadd, 1)) rfl
theorem s_142_302 {K : gC} : gOk K g_Ms mi_142 302 (ga_iald 303) := gs_iald (by decide +kernel : decode mi_142.2.1 302 = .ok (.iaload, 1)) rfl
theorem s_142_303 {K : gC} : gOk K g_Ms mi_142 303 (ga_aload 0 304) := gs_aload_n (by decide +kernel : decode mi_142.2.1 303 = .ok (.aload_n 0, 1)) rfl rfl
theorem s_142_304 {K : gC} : gOk K g_Ms mi_142 304 (ga_iload 3 305) := gs_iload_n (by decide +kernel : decode mi_142.2.1 304 = .ok (.iload_n 3, 1)) rfl rfl
theorem s_142_305 {K : gC} : gOk K g_Ms mi_142 305 (ga_push (.int 2) 306) := gs_iconst (by decide +kernel : decode mi_142.2.1 305 = .ok (.iconst 2, 1)) (by decide) rfl
theorem s_142_306 {K : gC} : gOk K g_Ms mi_142 306 (ga_bin (fun x y => x + y) 307) := gs_iadd (by decide +kernel : decode mi_142.2.1 306 = .ok (.iadd, 1)) rfl
theorem s_142_307 {K : gC} : gOk K g_Ms mi_142 307 (ga_iald 308) := gs_iald (by decide +kernel : decode mi_142.2.1 307 = .ok (.iaload, 1)) rfl
theorem s_142_308 {K : gC} : gOk K g_Ms mi_142 308 (ga_callV 7 102 2 311) := gs_callV gcls_7 (gce_X7_monk (by decide) (by decide)) gw_827 gw_828 gw_829 (by decide +kernel : decode mi_142.2.1 308 = .ok (.invokevirtual 41, 3)) rfl
theorem s_142_311 {K : gC} : gOk K g_Ms mi_142 311 (ga_cmp (fun x y => decide (x = y)) 893 314) := gs_cmp_eq (by decide +kernel : decode mi_142.2.1 311 = .ok (.if_icmp .eq 582, 3)) (by decide) rfl
theorem s_142_314 {K : gC} : gOk K g_Ms mi_142 314 (ga_push (.int 0) 315) := gs_iconst (by decide +kernel : decode mi_142.2.1 314 = .ok (.iconst 0, 1)) (by decide) rfl
theorem s_142_315 {K : gC} : gOk K g_Ms mi_142 315 (ga_zret) := gs_zret (by decide +kernel : decode mi_142.2.1 315 = .ok (.ireturn, 1)) rfl rfl rfl
theorem s_142_316 {K : gC} : gOk K g_Ms mi_142 316 (ga_aload 1 317) := gs_aload_n (by decide +kernel : decode mi_142.2.1 316 = .ok (.aload_n 1, 1)) rfl rfl
theorem s_142_317 {K : gC} : gOk K g_Ms mi_142 317 (ga_aload 0 318) := gs_aload_n (by decide +kernel : decode mi_142.2.1 317 = .ok (.aload_n 0, 1)) rfl rfl
theorem s_142_318 {K : gC} : gOk K g_Ms mi_142 318 (ga_iload 3 319) := gs_iload_n (by decide +kernel : decode mi_142.2.1 318 = .ok (.iload_n 3, 1)) rfl rfl
theorem s_142_319 {K : gC} : gOk K g_Ms mi_142 319 (ga_push (.int 1) 320) := gs_iconst (by decide +kernel : decode mi_142.2.1 319 = .ok (.iconst 1, 1)) (by decide) rfl
theorem s_142_320 {K : gC} : gOk K g_Ms mi_142 320 (ga_bin (fun x y => x + y) 321) := gs_iadd (by decide +kernel : decode mi_142.2.1 320 = .ok (.iadd, 1)) rfl
theorem s_142_321 {K : gC} : gOk K g_Ms mi_142 321 (ga_iald 322) := gs_iald (by decide +kernel : decode mi_142.2.1 321 = .ok (.iaload, 1)) rfl
theorem s_142_322 {K : gC} : gOk K g_Ms mi_142 322 (ga_aload 0 323) := gs_aload_n (by decide +kernel : decode mi_142.2.1 322 = .ok (.aload_n 0, 1)) rfl rfl
theorem s_142_323 {K : gC} : gOk K g_Ms mi_142 323 (ga_iload 3 324) := gs_iload_n (by decide +kernel : decode mi_142.2.1 323 = .ok (.iload_n 3, 1)) rfl rfl
theorem s_142_324 {K : gC} : gOk K g_Ms mi_142 324 (ga_push (.int 2) 325) := gs_iconst (by decide +kernel : decode mi_142.2.1 324 = .ok (.iconst 2, 1)) (by decide) rfl
theorem s_142_325 {K : gC} : gOk K g_Ms mi_142 325 (ga_bin (fun x y => x + y) 326) := gs_iadd (by decide +kernel : decode mi_142.2.1 325 = .ok (.iadd, 1)) rfl
theorem s_142_326 {K : gC} : gOk K g_Ms mi_142 326 (ga_iald 327) := gs_iald (by decide +kernel : decode mi_142.2.1 326 = .ok (.iaload, 1)) rfl
theorem s_142_327 {K : gC} : gOk K g_Ms mi_142 327 (ga_callV 6 59 2 330) := gs_callV gcls_6 (gce_X6_as (by decide) (by decide)) gw_436 gw_437 gw_438 (by decide +kernel : decode mi_142.2.1 327 = .ok (.invokevirtual 42, 3)) rfl
theorem s_142_330 {K : gC} : gOk K g_Ms mi_142 330 (ga_aload 2 331) := gs_aload_n (by decide +kernel : decode mi_142.2.1 330 = .ok (.aload_n 2, 1)) rfl rfl
theorem s_142_331 {K : gC} : gOk K g_Ms mi_142 331 (ga_aload 0 332) := gs_aload_n (by decide +kernel : decode mi_142.2.1 331 = .ok (.aload_n 0, 1)) rfl rfl
theorem s_142_332 {K : gC} : gOk K g_Ms mi_142 332 (ga_iload 3 333) := gs_iload_n (by decide +kernel : decode mi_142.2.1 332 = .ok (.iload_n 3, 1)) rfl rfl
theorem s_142_333 {K : gC} : gOk K g_Ms mi_142 333 (ga_push (.int 1) 334) := gs_iconst (by decide +kernel : decode mi_142.2.1 333 = .ok (.iconst 1, 1)) (by decide) rfl
theorem s_142_334 {K : gC} : gOk K g_Ms mi_142 334 (ga_bin (fun x y => x + y) 335) := gs_iadd (by decide +kernel : decode mi_142.2.1 334 = .ok (.iadd, 1)) rfl
theorem s_142_335 {K : gC} : gOk K g_Ms mi_142 335 (ga_iald 336) := gs_iald (by decide +kernel : decode mi_142.2.1 335 = .ok (.iaload, 1)) rfl
theorem s_142_336 {K : gC} : gOk K g_Ms mi_142 336 (ga_aload 0 337) := gs_aload_n (by decide +kernel : decode mi_142.2.1 336 = .ok (.aload_n 0, 1)) rfl rfl
theorem s_142_337 {K : gC} : gOk K g_Ms mi_142 337 (ga_iload 3 338) := gs_iload_n (by decide +kernel : decode mi_142.2.1 337 = .ok (.iload_n 3, 1)) rfl rfl
theorem s_142_338 {K : gC} : gOk K g_Ms mi_142 338 (ga_push (.int 2) 339) := gs_iconst (by decide +kernel : decode mi_142.2.1 338 = .ok (.iconst 2, 1)) (by decide) rfl
theorem s_142_339 {K : gC} : gOk K g_Ms mi_142 339 (ga_bin (fun x y => x + y) 340) := gs_iadd (by decide +kernel : decode mi_142.2.1 339 = .ok (.iadd, 1)) rfl
theorem s_142_340 {K : gC} : gOk K g_Ms mi_142 340 (ga_iald 341) := gs_iald (by decide +kernel : decode mi_142.2.1 340 = .ok (.iaload, 1)) rfl
theorem s_142_341 {K : gC} : gOk K g_Ms mi_142 341 (ga_callV 7 103 2 344) := gs_callV gcls_7 (gce_X7_as (by decide) (by decide)) gw_835 gw_836 gw_837 (by decide +kernel : decode mi_142.2.1 341 = .ok (.invokevirtual 45, 3)) rfl
theorem s_142_344 {K : gC} : gOk K g_Ms mi_142 344 (ga_cmp (fun x y => decide (x = y)) 893 347) := gs_cmp_eq (by decide +kernel : decode mi_142.2.1 344 = .ok (.if_icmp .eq 549, 3)) (by decide) rfl
theorem s_142_347 {K : gC} : gOk K g_Ms mi_142 347 (ga_push (.int 0) 348) := gs_iconst (by decide +kernel : decode mi_142.2.1 347 = .ok (.iconst 0, 1)) (by decide) rfl
theorem s_142_348 {K : gC} : gOk K g_Ms mi_142 348 (ga_zret) := gs_zret (by decide +kernel : decode mi_142.2.1 348 = .ok (.ireturn, 1)) rfl rfl rfl
theorem s_142_349 {K : gC} : gOk K g_Ms mi_142 349 (ga_aload 1 350) := gs_aload_n (by decide +kernel : decode mi_142.2.1 349 = .ok (.aload_n 1, 1)) rfl rfl
theorem s_142_350 {K : gC} : gOk K g_Ms mi_142 350 (ga_aload 0 351) := gs_aload_n (by decide +kernel : decode mi_142.2.1 350 = .ok (.aload_n 0, 1)) rfl rfl
theorem s_142_351 {K : gC} : gOk K g_Ms mi_142 351 (ga_iload 3 352) := gs_iload_n (by decide +kernel : decode mi_142.2.1 351 = .ok (.iload_n 3, 1)) rfl rfl
theorem s_142_352 {K : gC} : gOk K g_Ms mi_142 352 (ga_push (.int 1) 353) := gs_iconst (by decide +kernel : decode mi_142.2.1 352 = .ok (.iconst 1, 1)) (by decide) rfl
theorem s_142_353 {K : gC} : gOk K g_Ms mi_142 353 (ga_bin (fun x y => x + y) 354) := gs_iadd (by decide +kernel : decode mi_142.2.1 353 = .ok (.iadd, 1)) rfl
theorem s_142_354 {K : gC} : gOk K g_Ms mi_142 354 (ga_iald 355) := gs_iald (by decide +kernel : decode mi_142.2.1 354 = .ok (.iaload, 1)) rfl
theorem s_142_355 {K : gC} : gOk K g_Ms mi_142 355 (ga_callV 6 61 1 358) := gs_callV gcls_6 (gce_X6_strike (by decide) (by decide)) gw_445 gw_446 gw_447 (by decide +kernel : decode mi_142.2.1 355 = .ok (.invokevirtual 46, 3)) rfl
theorem s_142_358 {K : gC} : gOk K g_Ms mi_142 358 (ga_aload 2 359) := gs_aload_n (by decide +kernel : decode mi_142.2.1 358 = .ok (.aload_n 2, 1)) rfl rfl
theorem s_142_359 {K : gC} : gOk K g_Ms mi_142 359 (ga_aload 0 360) := gs_aload_n (by decide +kernel : decode mi_142.2.1 359 = .ok (.aload_n 0, 1)) rfl rfl
theorem s_142_360 {K : gC} : gOk K g_Ms mi_142 360 (ga_iload 3 361) := gs_iload_n (by decide +kernel : decode mi_142.2.1 360 = .ok (.iload_n 3, 1)) rfl rfl
theorem s_142_361 {K : gC} : gOk K g_Ms mi_142 361 (ga_push (.int 1) 362) := gs_iconst (by decide +kernel : decode mi_142.2.1 361 = .ok (.iconst 1, 1)) (by decide) rfl
theorem s_142_362 {K : gC} : gOk K g_Ms mi_142 362 (ga_bin (fun x y => x + y) 363) := gs_iadd (by decide +kernel : decode mi_142.2.1 362 = .ok (.iadd, 1)) rfl
theorem s_142_363 {K : gC} : gOk K g_Ms mi_142 363 (ga_iald 364) := gs_iald (by decide +kernel : decode mi_142.2.1 363 = .ok (.iaload, 1)) rfl
theorem s_142_364 {K : gC} : gOk K g_Ms mi_142 364 (ga_callV 7 105 1 367) := gs_callV gcls_7 (gce_X7_strike (by decide) (by decide)) gw_839 gw_840 gw_841 (by decide +kernel : decode mi_142.2.1 364 = .ok (.invokevirtual 50, 3)) rfl
theorem s_142_367 {K : gC} : gOk K g_Ms mi_142 367 (ga_cmp (fun x y => decide (x = y)) 893 370) := gs_cmp_eq (by decide +kernel : decode mi_142.2.1 367 = .ok (.if_icmp .eq 526, 3)) (by decide) rfl
theorem s_142_370 {K : gC} : gOk K g_Ms mi_142 370 (ga_push (.int 0) 371) := gs_iconst (by decide +kernel : decode mi_142.2.1 370 = .ok (.iconst 0, 1)) (by decide) rfl
theorem s_142_371 {K : gC} : gOk K g_Ms mi_142 371 (ga_zret) := gs_zret (by decide +kernel : decode mi_142.2.1 371 = .ok (.ireturn, 1)) rfl rfl rfl
theorem s_142_372 {K : gC} : gOk K g_Ms mi_142 372 (ga_aload 1 373) := gs_aload_n (by decide +kernel : decode mi_142.2.1 372 = .ok (.aload_n 1, 1)) rfl rfl
theorem s_142_373 {K : gC} : gOk K g_Ms mi_142 373 (ga_aload 0 374) := gs_aload_n (by decide +kernel : decode mi_142.2.1 373 = .ok (.aload_n 0, 1)) rfl rfl
theorem s_142_374 {K : gC} : gOk K g_Ms mi_142 374 (ga_iload 3 375) := gs_iload_n (by decide +kernel : decode mi_142.2.1 374 = .ok (.iload_n 3, 1)) rfl rfl
theorem s_142_375 {K : gC} : gOk K g_Ms mi_142 375 (ga_push (.int 1) 376) := gs_iconst (by decide +kernel : decode mi_142.2.1 375 = .ok (.iconst 1, 1)) (by decide) rfl
theorem s_142_376 {K : gC} : gOk K g_Ms mi_142 376 (ga_bin (fun x y => x + y) 377) := gs_iadd (by decide +kernel : decode mi_142.2.1 376 = .ok (.iadd, 1)) rfl
theorem s_142_377 {K : gC} : gOk K g_Ms mi_142 377 (ga_iald 378) := gs_iald (by decide +kernel : decode mi_142.2.1 377 = .ok (.iaload, 1)) rfl
theorem s_142_378 {K : gC} : gOk K g_Ms mi_142 378 (ga_callV 6 62 1 381) := gs_callV gcls_6 (gce_X6_go (by decide) (by decide)) gw_459 gw_460 gw_461 (by decide +kernel : decode mi_142.2.1 378 = .ok (.invokevirtual 51, 3)) rfl
theorem s_142_381 {K : gC} : gOk K g_Ms mi_142 381 (ga_aload 2 382) := gs_aload_n (by decide +kernel : decode mi_142.2.1 381 = .ok (.aload_n 2, 1)) rfl rfl
theorem s_142_382 {K : gC} : gOk K g_Ms mi_142 382 (ga_aload 0 383) := gs_aload_n (by decide +kernel : decode mi_142.2.1 382 = .ok (.aload_n 0, 1)) rfl rfl
theorem s_142_383 {K : gC} : gOk K g_Ms mi_142 383 (ga_iload 3 384) := gs_iload_n (by decide +kernel : decode mi_142.2.1 383 = .ok (.iload_n 3, 1)) rfl rfl
theorem s_142_384 {K : gC} : gOk K g_Ms mi_142 384 (ga_push (.int 1) 385) := gs_iconst (by decide +kernel : decode mi_142.2.1 384 = .ok (.iconst 1, 1)) (by decide) rfl
theorem s_142_385 {K : gC} : gOk K g_Ms mi_142 385 (ga_bin (fun x y => x + y) 386) := gs_iadd (by decide +kernel : decode mi_142.2.1 385 = .ok (.iadd, 1)) rfl
theorem s_142_386 {K : gC} : gOk K g_Ms mi_142 386 (ga_iald 387) := gs_iald (by decide +kernel : decode mi_142.2.1 386 = .ok (.iaload, 1)) rfl
theorem s_142_387 {K : gC} : gOk K g_Ms mi_142 387 (ga_callV 7 107 1 390) := gs_callV gcls_7 (gce_X7_go (by decide) (by decide)) gw_850 gw_851 gw_852 (by decide +kernel : decode mi_142.2.1 387 = .ok (.invokevirtual 54, 3)) rfl
theorem s_142_390 {K : gC} : gOk K g_Ms mi_142 390 (ga_cmp (fun x y => decide (x = y)) 893 393) := gs_cmp_eq (by decide +kernel : decode mi_142.2.1 390 = .ok (.if_icmp .eq 503, 3)) (by decide) rfl
theorem s_142_393 {K : gC} : gOk K g_Ms mi_142 393 (ga_push (.int 0) 394) := gs_iconst (by decide +kernel : decode mi_142.2.1 393 = .ok (.iconst 0, 1)) (by decide) rfl
theorem s_142_394 {K : gC} : gOk K g_Ms mi_142 394 (ga_zret) := gs_zret (by decide +kernel : decode mi_142.2.1 394 = .ok (.ireturn, 1)) rfl rfl rfl
theorem s_142_395 {K : gC} : gOk K g_Ms mi_142 395 (ga_aload 1 396) := gs_aload_n (by decide +kernel : decode mi_142.2.1 395 = .ok (.aload_n 1, 1)) rfl rfl
theorem s_142_396 {K : gC} : gOk K g_Ms mi_142 396 (ga_aload 0 397) := gs_aload_n (by decide +kernel : decode mi_142.2.1 396 = .ok (.aload_n 0, 1)) rfl rfl
theorem s_142_397 {K : gC} : gOk K g_Ms mi_142 397 (ga_iload 3 398) := gs_iload_n (by decide +kernel : decode mi_142.2.1 397 = .ok (.iload_n 3, 1)) rfl rfl
theorem s_142_398 {K : gC} : gOk K g_Ms mi_142 398 (ga_push (.int 1) 399) := gs_iconst (by decide +kernel : decode mi_142.2.1 398 = .ok (.iconst 1, 1)) (by decide) rfl
theorem s_142_399 {K : gC} : gOk K g_Ms mi_142 399 (ga_bin (fun x y => x + y) 400) := gs_iadd (by decide +kernel : decode mi_142.2.1 399 = .ok (.iadd, 1)) rfl
theorem s_142_400 {K : gC} : gOk K g_Ms mi_142 400 (ga_iald 401) := gs_iald (by decide +kernel : decode mi_142.2.1 400 = .ok (.iaload, 1)) rfl
theorem s_142_401 {K : gC} : gOk K g_Ms mi_142 401 (ga_callV 6 63 1 404) := gs_callV gcls_6 (gce_X6_turn (by decide) (by decide)) gw_475 gw_476 gw_477 (by decide +kernel : decode mi_142.2.1 401 = .ok (.invokevirtual 55, 3)) rfl
theorem s_142_404 {K : gC} : gOk K g_Ms mi_142 404 (ga_aload 2 405) := gs_aload_n (by decide +kernel : decode mi_142.2.1 404 = .ok (.aload_n 2, 1)) rfl rfl
theorem s_142_405 {K : gC} : gOk K g_Ms mi_142 405 (ga_aload 0 406) := gs_aload_n (by decide +kernel : decode mi_142.2.1 405 = .ok (.aload_n 0, 1)) rfl rfl
theorem s_142_406 {K : gC} : gOk K g_Ms mi_142 406 (ga_iload 3 407) := gs_iload_n (by decide +kernel : decode mi_142.2.1 406 = .ok (.iload_n 3, 1)) rfl rfl
theorem s_142_407 {K : gC} : gOk K g_Ms mi_142 407 (ga_push (.int 1) 408) := gs_iconst (by decide +kernel : decode mi_142.2.1 407 = .ok (.iconst 1, 1)) (by decide) rfl
theorem s_142_408 {K : gC} : gOk K g_Ms mi_142 408 (ga_bin (fun x y => x + y) 409) := gs_iadd (by decide +kernel : decode mi_142.2.1 408 = .ok (.iadd, 1)) rfl
theorem s_142_409 {K : gC} : gOk K g_Ms mi_142 409 (ga_iald 410) := gs_iald (by decide +kernel : decode mi_142.2.1 409 = .ok (.iaload, 1)) rfl
theorem s_142_410 {K : gC} : gOk K g_Ms mi_142 410 (ga_callV 7 108 1 413) := gs_callV gcls_7 (gce_X7_turn (by decide) (by decide)) gw_859 gw_860 gw_861 (by decide +kernel : decode mi_142.2.1 410 = .ok (.invokevirtual 58, 3)) rfl
theorem s_142_413 {K : gC} : gOk K g_Ms mi_142 413 (ga_cmp (fun x y => decide (x = y)) 893 416) := gs_cmp_eq (by decide +kernel : decode mi_142.2.1 413 = .ok (.if_icmp .eq 480, 3)) (by decide) rfl
theorem s_142_416 {K : gC} : gOk K g_Ms mi_142 416 (ga_push (.int 0) 417) := gs_iconst (by decide +kernel : decode mi_142.2.1 416 = .ok (.iconst 0, 1)) (by decide) rfl
theorem s_142_417 {K : gC} : gOk K g_Ms mi_142 417 (ga_zret) := gs_zret (by decide +kernel : decode mi_142.2.1 417 = .ok (.ireturn, 1)) rfl rfl rfl
theorem s_142_418 {K : gC} : gOk K g_Ms mi_142 418 (ga_aload 1 419) := gs_aload_n (by decide +kernel : decode mi_142.2.1 418 = .ok (.aload_n 1, 1)) rfl rfl
theorem s_142_419 {K : gC} : gOk K g_Ms mi_142 419 (ga_aload 0 420) := gs_aload_n (by decide +kernel : decode mi_142.2.1 419 = .ok (.aload_n 0, 1)) rfl rfl
theorem s_142_420 {K : gC} : gOk K g_Ms mi_142 420 (ga_iload 3 421) := gs_iload_n (by decide +kernel : decode mi_142.2.1 420 = .ok (.iload_n 3, 1)) rfl rfl
theorem s_142_421 {K : gC} : gOk K g_Ms mi_142 421 (ga_push (.int 1) 422) := gs_iconst (by decide +kernel : decode mi_142.2.1 421 = .ok (.iconst 1, 1)) (by decide) rfl
theorem s_142_422 {K : gC} : gOk K g_Ms mi_142 422 (ga_bin (fun x y => x + y) 423) := gs_iadd (by decide +kernel : decode mi_142.2.1 422 = .ok (.iadd, 1)) rfl
theorem s_142_423 {K : gC} : gOk K g_Ms mi_142 423 (ga_iald 424) := gs_iald (by decide +kernel : decode mi_142.2.1 423 = .ok (.iaload, 1)) rfl
theorem s_142_424 {K : gC} : gOk K g_Ms mi_142 424 (ga_callV 6 64 1 427) := gs_callV gcls_6 (gce_X6_keep (by decide) (by decide)) gw_479 gw_480 gw_481 (by decide +kernel : decode mi_142.2.1 424 = .ok (.invokevirtual 59, 3)) rfl
theorem s_142_427 {K : gC} : gOk K g_Ms mi_142 427 (ga_aload 2 428) := gs_aload_n (by decide +kernel : decode mi_142.2.1 427 = .ok (.aload_n 2, 1)) rfl rfl
theorem s_142_428 {K : gC} : gOk K g_Ms mi_142 428 (ga_aload 0 429) := gs_aload_n (by decide +kernel : decode mi_142.2.1 428 = .ok (.aload_n 0, 1)) rfl rfl
theorem s_142_429 {K : gC} : gOk K g_Ms mi_142 429 (ga_iload 3 430) := gs_iload_n (by decide +kernel : decode mi_142.2.1 429 = .ok (.iload_n 3, 1)) rfl rfl
theorem s_142_430 {K : gC} : gOk K g_Ms mi_142 430 (ga_push (.int 1) 431) := gs_iconst (by decide +kernel : decode mi_142.2.1 430 = .ok (.iconst 1, 1)) (by decide) rfl
theorem s_142_431 {K : gC} : gOk K g_Ms mi_142 431 (ga_bin (fun x y => x + y) 432) := gs_iadd (by decide +kernel : decode mi_142.2.1 431 = .ok (.iadd, 1)) rfl
theorem s_142_432 {K : gC} : gOk K g_Ms mi_142 432 (ga_iald 433) := gs_iald (by decide +kernel : decode mi_142.2.1 432 = .ok (.iaload, 1)) rfl
theorem s_142_433 {K : gC} : gOk K g_Ms mi_142 433 (ga_callV 7 109 1 436) := gs_callV gcls_7 (gce_X7_keep (by decide) (by decide)) gw_863 gw_864 gw_865 (by decide +kernel : decode mi_142.2.1 433 = .ok (.invokevirtual 62, 3)) rfl
theorem s_142_436 {K : gC} : gOk K g_Ms mi_142 436 (ga_cmp (fun x y => decide (x = y)) 893 439) := gs_cmp_eq (by decide +kernel : decode mi_142.2.1 436 = .ok (.if_icmp .eq 457, 3)) (by decide) rfl
theorem s_142_439 {K : gC} : gOk K g_Ms mi_142 439 (ga_push (.int 0) 440) := gs_iconst (by decide +kernel : decode mi_142.2.1 439 = .ok (.iconst 0, 1)) (by decide) rfl
theorem s_142_440 {K : gC} : gOk K g_Ms mi_142 440 (ga_zret) := gs_zret (by decide +kernel : decode mi_142.2.1 440 = .ok (.ireturn, 1)) rfl rfl rfl
theorem s_142_441 {K : gC} : gOk K g_Ms mi_142 441 (ga_aload 1 442) := gs_aload_n (by decide +kernel : decode mi_142.2.1 441 = .ok (.aload_n 1, 1)) rfl rfl
theorem s_142_442 {K : gC} : gOk K g_Ms mi_142 442 (ga_aload 0 443) := gs_aload_n (by decide +kernel : decode mi_142.2.1 442 = .ok (.aload_n 0, 1)) rfl rfl
theorem s_142_443 {K : gC} : gOk K g_Ms mi_142 443 (ga_iload 3 444) := gs_iload_n (by decide +kernel : decode mi_142.2.1 443 = .ok (.iload_n 3, 1)) rfl rfl
theorem s_142_444 {K : gC} : gOk K g_Ms mi_142 444 (ga_push (.int 1) 445) := gs_iconst (by decide +kernel : decode mi_142.2.1 444 = .ok (.iconst 1, 1)) (by decide) rfl
theorem s_142_445 {K : gC} : gOk K g_Ms mi_142 445 (ga_bin (fun x y => x + y) 446) := gs_iadd (by decide +kernel : decode mi_142.2.1 445 = .ok (.iadd, 1)) rfl
theorem s_142_446 {K : gC} : gOk K g_Ms mi_142 446 (ga_iald 447) := gs_iald (by decide +kernel : decode mi_142.2.1 446 = .ok (.iaload, 1)) rfl
theorem s_142_447 {K : gC} : gOk K g_Ms mi_142 447 (ga_callV 6 65 1 450) := gs_callV gcls_6 (gce_X6_back (by decide) (by decide)) gw_487 gw_488 gw_489 (by decide +kernel : decode mi_142.2.1 447 = .ok (.invokevirtual 63, 3)) rfl
theorem s_142_450 {K : gC} : gOk K g_Ms mi_142 450 (ga_aload 2 451) := gs_aload_n (by decide +kernel : decode mi_142.2.1 450 = .ok (.aload_n 2, 1)) rfl rfl
theorem s_142_451 {K : gC} : gOk K g_Ms mi_142 451 (ga_aload 0 452) := gs_aload_n (by decide +kernel : decode mi_142.2.1 451 = .ok (.aload_n 0, 1)) rfl rfl
theorem s_142_452 {K : gC} : gOk K g_Ms mi_142 452 (ga_iload 3 453) := gs_iload_n (by decide +kernel : decode mi_142.2.1 452 = .ok (.iload_n 3, 1)) rfl rfl
theorem s_142_453 {K : gC} : gOk K g_Ms mi_142 453 (ga_push (.int 1) 454) := gs_iconst (by decide +kernel : decode mi_142.2.1 453 = .ok (.iconst 1, 1)) (by decide) rfl
theorem s_142_454 {K : gC} : gOk K g_Ms mi_142 454 (ga_bin (fun x y => x + y) 455) := gs_iadd (by decide +kernel : decode mi_142.2.1 454 = .ok (.iadd, 1)) rfl
theorem s_142_455 {K : gC} : gOk K g_Ms mi_142 455 (ga_iald 456) := gs_iald (by decide +kernel : decode mi_142.2.1 455 = .ok (.iaload, 1)) rfl
theorem s_142_456 {K : gC} : gOk K g_Ms mi_142 456 (ga_callV 7 110 1 459) := gs_callV gcls_7 (gce_X7_back (by decide) (by decide)) gw_867 gw_868 gw_869 (by decide +kernel : decode mi_142.2.1 456 = .ok (.invokevirtual 66, 3)) rfl
theorem s_142_459 {K : gC} : gOk K g_Ms mi_142 459 (ga_cmp (fun x y => decide (x = y)) 893 462) := gs_cmp_eq (by decide +kernel : decode mi_142.2.1 459 = .ok (.if_icmp .eq 434, 3)) (by decide) rfl
theorem s_142_462 {K : gC} : gOk K g_Ms mi_142 462 (ga_push (.int 0) 463) := gs_iconst (by decide +kernel : decode mi_142.2.1 462 = .ok (.iconst 0, 1)) (by decide) rfl
theorem s_142_463 {K : gC} : gOk K g_Ms mi_142 463 (ga_zret) := gs_zret (by decide +kernel : decode mi_142.2.1 463 = .ok (.ireturn, 1)) rfl rfl rfl
theorem s_142_464 {K : gC} : gOk K g_Ms mi_142 464 (ga_aload 1 465) := gs_aload_n (by decide +kernel : decode mi_142.2.1 464 = .ok (.aload_n 1, 1)) rfl rfl
theorem s_142_465 {K : gC} : gOk K g_Ms mi_142 465 (ga_aload 0 466) := gs_aload_n (by decide +kernel : decode mi_142.2.1 465 = .ok (.aload_n 0, 1)) rfl rfl
theorem s_142_466 {K : gC} : gOk K g_Ms mi_142 466 (ga_iload 3 467) := gs_iload_n (by decide +kernel : decode mi_142.2.1 466 = .ok (.iload_n 3, 1)) rfl rfl
theorem s_142_467 {K : gC} : gOk K g_Ms mi_142 467 (ga_push (.int 1) 468) := gs_iconst (by decide +kernel : decode mi_142.2.1 467 = .ok (.iconst 1, 1)) (by decide) rfl
theorem s_142_468 {K : gC} : gOk K g_Ms mi_142 468 (ga_bin (fun x y => x + y) 469) := gs_iadd (by decide +kernel : decode mi_142.2.1 468 = .ok (.iadd, 1)) rfl
theorem s_142_469 {K : gC} : gOk K g_Ms mi_142 469 (ga_iald 470) := gs_iald (by decide +kernel : decode mi_142.2.1 469 = .ok (.iaload, 1)) rfl
theorem s_142_470 {K : gC} : gOk K g_Ms mi_142 470 (ga_aload 0 471) := gs_aload_n (by decide +kernel : decode mi_142.2.1 470 = .ok (.aload_n 0, 1)) rfl rfl
theorem s_142_471 {K : gC} : gOk K g_Ms mi_142 471 (ga_iload 3 472) := gs_iload_n (by decide +kernel : decode mi_142.2.1 471 = .ok (.iload_n 3, 1)) rfl rfl
theorem s_142_472 {K : gC} : gOk K g_Ms mi_142 472 (ga_push (.int 2) 473) := gs_iconst (by decide +kernel : decode mi_142.2.1 472 = .ok (.iconst 2, 1)) (by decide) rfl
theorem s_142_473 {K : gC} : gOk K g_Ms mi_142 473 (ga_bin (fun x y => x + y) 474) := gs_iadd (by decide +kernel : decode mi_142.2.1 473 = .ok (.iadd, 1)) rfl
theorem s_142_474 {K : gC} : gOk K g_Ms mi_142 474 (ga_iald 475) := gs_iald (by decide +kernel : decode mi_142.2.1 474 = .ok (.iaload, 1)) rfl
theorem s_142_475 {K : gC} : gOk K g_Ms mi_142 475 (ga_callV 6 66 2 478) := gs_callV gcls_6 (gce_X6_first (by decide) (by decide)) gw_491 gw_492 gw_493 (by decide +kernel : decode mi_142.2.1 475 = .ok (.invokevirtual 67, 3)) rfl
theorem s_142_478 {K : gC} : gOk K g_Ms mi_142 478 (ga_aload 2 479) := gs_aload_n (by decide +kernel : decode mi_142.2.1 478 = .ok (.aload_n 2, 1)) rfl rfl
theorem s_142_479 {K : gC} : gOk K g_Ms mi_142 479 (ga_aload 0 480) := gs_aload_n (by decide +kernel : decode mi_142.2.1 479 = .ok (.aload_n 0, 1)) rfl rfl
theorem s_142_480 {K : gC} : gOk K g_Ms mi_142 480 (ga_iload 3 481) := gs_iload_n (by decide +kernel : decode mi_142.2.1 480 = .ok (.iload_n 3, 1)) rfl rfl
theorem s_142_481 {K : gC} : gOk K g_Ms mi_142 481 (ga_push (.int 1) 482) := gs_iconst (by decide +kernel : decode mi_142.2.1 481 = .ok (.iconst 1, 1)) (by decide) rfl
theorem s_142_482 {K : gC} : gOk K g_Ms mi_142 482 (ga_bin (fun x y => x + y) 483) := gs_iadd (by decide +kernel : decode mi_142.2.1 482 = .ok (.iadd, 1)) rfl
theorem s_142_483 {K : gC} : gOk K g_Ms mi_142 483 (ga_iald 484) := gs_iald (by decide +kernel : decode mi_142.2.1 483 = .ok (.iaload, 1)) rfl
theorem s_142_484 {K : gC} : gOk K g_Ms mi_142 484 (ga_aload 0 485) := gs_aload_n (by decide +kernel : decode mi_142.2.1 484 = .ok (.aload_n 0, 1)) rfl rfl
theorem s_142_485 {K : gC} : gOk K g_Ms mi_142 485 (ga_iload 3 486) := gs_iload_n (by decide +kernel : decode mi_142.2.1 485 = .ok (.iload_n 3, 1)) rfl rfl
theorem s_142_486 {K : gC} : gOk K g_Ms mi_142 486 (ga_push (.int 2) 487) := gs_iconst (by decide +kernel : decode mi_142.2.1 486 = .ok (.iconst 2, 1)) (by decide) rfl
theorem s_142_487 {K : gC} : gOk K g_Ms mi_142 487 (ga_bin (fun x y => x + y) 488) := gs_iadd (by decide +kernel : decode mi_142.2.1 487 = .ok (.iadd, 1)) rfl
theorem s_142_488 {K : gC} : gOk K g_Ms mi_142 488 (ga_iald 489) := gs_iald (by decide +kernel : decode mi_142.2.1 488 = .ok (.iaload, 1)) rfl
theorem s_142_489 {K : gC} : gOk K g_Ms mi_142 489 (ga_callV 7 115 2 492) := gs_callV gcls_7 (gce_X7_first (by decide) (by decide)) gw_871 gw_872 gw_873 (by decide +kernel : decode mi_142.2.1 489 = .ok (.invokevirtual 70, 3)) rfl
theorem s_142_492 {K : gC} : gOk K g_Ms mi_142 492 (ga_cmp (fun x y => decide (x = y)) 893 495) := gs_cmp_eq (by decide +kernel : decode mi_142.2.1 492 = .ok (.if_icmp .eq 401, 3)) (by decide) rfl
theorem s_142_495 {K : gC} : gOk K g_Ms mi_142 495 (ga_push (.int 0) 496) := gs_iconst (by decide +kernel : decode mi_142.2.1 495 = .ok (.iconst 0, 1)) (by decide) rfl
theorem s_142_496 {K : gC} : gOk K g_Ms mi_142 496 (ga_zret) := gs_zret (by decide +kernel : decode mi_142.2.1 496 = .ok (.ireturn, 1)) rfl rfl rfl
theorem s_142_497 {K : gC} : gOk K g_Ms mi_142 497 (ga_aload 1 498) := gs_aload_n (by decide +kernel : decode mi_142.2.1 497 = .ok (.aload_n 1, 1)) rfl rfl
theorem s_142_498 {K : gC} : gOk K g_Ms mi_142 498 (ga_aload 0 499) := gs_aload_n (by decide +kernel : decode mi_142.2.1 498 = .ok (.aload_n 0, 1)) rfl rfl
theorem s_142_499 {K : gC} : gOk K g_Ms mi_142 499 (ga_iload 3 500) := gs_iload_n (by decide +kernel : decode mi_142.2.1 499 = .ok (.iload_n 3, 1)) rfl rfl
theorem s_142_500 {K : gC} : gOk K g_Ms mi_142 500 (ga_push (.int 1) 501) := gs_iconst (by decide +kernel : decode mi_142.2.1 500 = .ok (.iconst 1, 1)) (by decide) rfl
theorem s_142_501 {K : gC} : gOk K g_Ms mi_142 501 (ga_bin (fun x y => x + y) 502) := gs_iadd (by decide +kernel : decode mi_142.2.1 501 = .ok (.iadd, 1)) rfl
theorem s_142_502 {K : gC} : gOk K g_Ms mi_142 502 (ga_iald 503) := gs_iald (by decide +kernel : decode mi_142.2.1 502 = .ok (.iaload, 1)) rfl
theorem s_142_503 {K : gC} : gOk K g_Ms mi_142 503 (ga_callV 6 67 1 506) := gs_callV gcls_6 (gce_X6_who (by decide) (by decide)) gw_518 gw_519 gw_520 (by decide +kernel : decode mi_142.2.1 503 = .ok (.invokevirtual 71, 3)) rfl
theorem s_142_506 {K : gC} : gOk K g_Ms mi_142 506 (ga_aload 2 507) := gs_aload_n (by decide +kernel : decode mi_142.2.1 506 = .ok (.aload_n 2, 1)) rfl rfl
theorem s_142_507 {K : gC} : gOk K g_Ms mi_142 507 (ga_aload 0 508) := gs_aload_n (by decide +kernel : decode mi_142.2.1 507 = .ok (.aload_n 0, 1)) rfl rfl
theorem s_142_508 {K : gC} : gOk K g_Ms mi_142 508 (ga_iload 3 509) := gs_iload_n (by decide +kernel : decode mi_142.2.1 508 = .ok (.iload_n 3, 1)) rfl rfl
theorem s_142_509 {K : gC} : gOk K g_Ms mi_142 509 (ga_push (.int 1) 510) := gs_iconst (by decide +kernel : decode mi_142.2.1 509 = .ok (.iconst 1, 1)) (by decide) rfl
theorem s_142_510 {K : gC} : gOk K g_Ms mi_142 510 (ga_bin (fun x y => x + y) 511) := gs_iadd (by decide +kernel : decode mi_142.2.1 510 = .ok (.iadd, 1)) rfl
theorem s_142_511 {K : gC} : gOk K g_Ms mi_142 511 (ga_iald 512) := gs_iald (by decide +kernel : decode mi_142.2.1 511 = .ok (.iaload, 1)) rfl
theorem s_142_512 {K : gC} : gOk K g_Ms mi_142 512 (ga_callV 7 116 1 515) := gs_callV gcls_7 (gce_X7_who (by decide) (by decide)) gw_887 gw_888 gw_889 (by decide +kernel : decode mi_142.2.1 512 = .ok (.invokevirtual 74, 3)) rfl
theorem s_142_515 {K : gC} : gOk K g_Ms mi_142 515 (ga_cmp (fun x y => decide (x = y)) 893 518) := gs_cmp_eq (by decide +kernel : decode mi_142.2.1 515 = .ok (.if_icmp .eq 378, 3)) (by decide) rfl
theorem s_142_518 {K : gC} : gOk K g_Ms mi_142 518 (ga_push (.int 0) 519) := gs_iconst (by decide +kernel : decode mi_142.2.1 518 = .ok (.iconst 0, 1)) (by decide) rfl
theorem s_142_519 {K : gC} : gOk K g_Ms mi_142 519 (ga_zret) := gs_zret (by decide +kernel : decode mi_142.2.1 519 = .ok (.ireturn, 1)) rfl rfl rfl
theorem s_142_520 {K : gC} : gOk K g_Ms mi_142 520 (ga_aload 1 521) := gs_aload_n (by decide +kernel : decode mi_142.2.1 520 = .ok (.aload_n 1, 1)) rfl rfl
theorem s_142_521 {K : gC} : gOk K g_Ms mi_142 521 (ga_aload 0 522) := gs_aload_n (by decide +kernel : decode mi_142.2.1 521 = .ok (.aload_n 0, 1)) rfl rfl
theorem s_142_522 {K : gC} : gOk K g_Ms mi_142 522 (ga_iload 3 523) := gs_iload_n (by decide +kernel : decode mi_142.2.1 522 = .ok (.iload_n 3, 1)) rfl rfl
theorem s_142_523 {K : gC} : gOk K g_Ms mi_142 523 (ga_push (.int 1) 524) := gs_iconst (by decide +kernel : decode mi_142.2.1 523 = .ok (.iconst 1, 1)) (by decide) rfl
theorem s_142_524 {K : gC} : gOk K g_Ms mi_142 524 (ga_bin (fun x y => x + y) 525) := gs_iadd (by decide +kernel : decode mi_142.2.1 524 = .ok (.iadd, 1)) rfl
theorem s_142_525 {K : gC} : gOk K g_Ms mi_142 525 (ga_iald 526) := gs_iald (by decide +kernel : decode mi_142.2.1 525 = .ok (.iaload, 1)) rfl
theorem s_142_526 {K : gC} : gOk K g_Ms mi_142 526 (ga_callV 6 68 1 529) := gs_callV gcls_6 (gce_X6_ends (by decide) (by decide)) gw_527 gw_528 gw_529 (by decide +kernel : decode mi_142.2.1 526 = .ok (.invokevirtual 75, 3)) rfl
theorem s_142_529 {K : gC} : gOk K g_Ms mi_142 529 (ga_aload 2 530) := gs_aload_n (by decide +kernel : decode mi_142.2.1 529 = .ok (.aload_n 2, 1)) rfl rfl
theorem s_142_530 {K : gC} : gOk K g_Ms mi_142 530 (ga_aload 0 531) := gs_aload_n (by decide +kernel : decode mi_142.2.1 530 = .ok (.aload_n 0, 1)) rfl rfl
theorem s_142_531 {K : gC} : gOk K g_Ms mi_142 531 (ga_iload 3 532) := gs_iload_n (by decide +kernel : decode mi_142.2.1 531 = .ok (.iload_n 3, 1)) rfl rfl
theorem s_142_532 {K : gC} : gOk K g_Ms mi_142 532 (ga_push (.int 1) 533) := gs_iconst (by decide +kernel : decode mi_142.2.1 532 = .ok (.iconst 1, 1)) (by decide) rfl
theorem s_142_533 {K : gC} : gOk K g_Ms mi_142 533 (ga_bin (fun x y => x + y) 534) := gs_iadd (by decide +kernel : decode mi_142.2.1 533 = .ok (.iadd, 1)) rfl
theorem s_142_534 {K : gC} : gOk K g_Ms mi_142 534 (ga_iald 535) := gs_iald (by decide +kernel : decode mi_142.2.1 534 = .ok (.iaload, 1)) rfl
theorem s_142_535 {K : gC} : gOk K g_Ms mi_142 535 (ga_callV 7 117 1 538) := gs_callV gcls_7 (gce_X7_ends (by decide) (by decide)) gw_895 gw_896 gw_897 (by decide +kernel : decode mi_142.2.1 535 = .ok (.invokevirtual 78, 3)) rfl
theorem s_142_538 {K : gC} : gOk K g_Ms mi_142 538 (ga_cmp (fun x y => decide (x = y)) 893 541) := gs_cmp_eq (by decide +kernel : decode mi_142.2.1 538 = .ok (.if_icmp .eq 355, 3)) (by decide) rfl
theorem s_142_541 {K : gC} : gOk K g_Ms mi_142 541 (ga_push (.int 0) 542) := gs_iconst (by decide +kernel : decode mi_142.2.1 541 = .ok (.iconst 0, 1)) (by decide) rfl
theorem s_142_542 {K : gC} : gOk K g_Ms mi_142 542 (ga_zret) := gs_zret (by decide +kernel : decode mi_142.2.1 542 = .ok (.ireturn, 1)) rfl rfl rfl
theorem s_142_543 {K : gC} : gOk K g_Ms mi_142 543 (ga_aload 1 544) := gs_aload_n (by decide +kernel : decode mi_142.2.1 543 = .ok (.aload_n 1, 1)) rfl rfl
theorem s_142_544 {K : gC} : gOk K g_Ms mi_142 544 (ga_aload 0 545) := gs_aload_n (by decide +kernel : decode mi_142.2.1 544 = .ok (.aload_n 0, 1)) rfl rfl
theorem s_142_545 {K : gC} : gOk K g_Ms mi_142 545 (ga_iload 3 546) := gs_iload_n (by decide +kernel : decode mi_142.2.1 545 = .ok (.iload_n 3, 1)) rfl rfl
theorem s_142_546 {K : gC} : gOk K g_Ms mi_142 546 (ga_push (.int 1) 547) := gs_iconst (by decide +kernel : decode mi_142.2.1 546 = .ok (.iconst 1, 1)) (by decide) rfl
theorem s_142_547 {K : gC} : gOk K g_Ms mi_142 547 (ga_bin (fun x y => x + y) 548) := gs_iadd (by decide +kernel : decode mi_142.2.1 547 = .ok (.iadd, 1)) rfl
theorem s_142_548 {K : gC} : gOk K g_Ms mi_142 548 (ga_iald 549) := gs_iald (by decide +kernel : decode mi_142.2.1 548 = .ok (.iaload, 1)) rfl
theorem s_142_549 {K : gC} : gOk K g_Ms mi_142 549 (ga_callV 6 69 1 552) := gs_callV gcls_6 (gce_X6_round (by decide) (by decide)) gw_538 gw_539 gw_540 (by decide +kernel : decode mi_142.2.1 549 = .ok (.invokevirtual 79, 3)) rfl
theorem s_142_552 {K : gC} : gOk K g_Ms mi_142 552 (ga_aload 2 553) := gs_aload_n (by decide +kernel : decode mi_142.2.1 552 = .ok (.aload_n 2, 1)) rfl rfl
theorem s_142_553 {K : gC} : gOk K g_Ms mi_142 553 (ga_aload 0 554) := gs_aload_n (by decide +kernel : decode mi_142.2.1 553 = .ok (.aload_n 0, 1)) rfl rfl
theorem s_142_554 {K : gC} : gOk K g_Ms mi_142 554 (ga_iload 3 555) := gs_iload_n (by decide +kernel : decode mi_142.2.1 554 = .ok (.iload_n 3, 1)) rfl rfl
theorem s_142_555 {K : gC} : gOk K g_Ms mi_142 555 (ga_push (.int 1) 556) := gs_iconst (by decide +kernel : decode mi_142.2.1 555 = .ok (.iconst 1, 1)) (by decide) rfl
theorem s_142_556 {K : gC} : gOk K g_Ms mi_142 556 (ga_bin (fun x y => x + y) 557) := gs_iadd (by decide +kernel : decode mi_142.2.1 556 = .ok (.iadd, 1)) rfl
theorem s_142_557 {K : gC} : gOk K g_Ms mi_142 557 (ga_iald 558) := gs_iald (by decide +kernel : decode mi_142.2.1 557 = .ok (.iaload, 1)) rfl
theorem s_142_558 {K : gC} : gOk K g_Ms mi_142 558 (ga_callV 7 118 1 561) := gs_callV gcls_7 (gce_X7_round (by decide) (by decide)) gw_899 gw_900 gw_901 (by decide +kernel : decode mi_142.2.1 558 = .ok (.invokevirtual 82, 3)) rfl
theorem s_142_561 {K : gC} : gOk K g_Ms mi_142 561 (ga_cmp (fun x y => decide (x = y)) 893 564) := gs_cmp_eq (by decide +kernel : decode mi_142.2.1 561 = .ok (.if_icmp .eq 332, 3)) (by decide) rfl
theorem s_142_564 {K : gC} : gOk K g_Ms mi_142 564 (ga_push (.int 0) 565) := gs_iconst (by decide +kernel : decode mi_142.2.1 564 = .ok (.iconst 0, 1)) (by decide) rfl
theorem s_142_565 {K : gC} : gOk K g_Ms mi_142 565 (ga_zret) := gs_zret (by decide +kernel : decode mi_142.2.1 565 = .ok (.ireturn, 1)) rfl rfl rfl
theorem s_142_566 {K : gC} : gOk K g_Ms mi_142 566 (ga_aload 1 567) := gs_aload_n (by decide +kernel : decode mi_142.2.1 566 = .ok (.aload_n 1, 1)) rfl rfl
theorem s_142_567 {K : gC} : gOk K g_Ms mi_142 567 (ga_aload 0 568) := gs_aload_n (by decide +kernel : decode mi_142.2.1 567 = .ok (.aload_n 0, 1)) rfl rfl
theorem s_142_568 {K : gC} : gOk K g_Ms mi_142 568 (ga_iload 3 569) := gs_iload_n (by decide +kernel : decode mi_142.2.1 568 = .ok (.iload_n 3, 1)) rfl rfl
theorem s_142_569 {K : gC} : gOk K g_Ms mi_142 569 (ga_push (.int 1) 570) := gs_iconst (by decide +kernel : decode mi_142.2.1 569 = .ok (.iconst 1, 1)) (by decide) rfl
theorem s_142_570 {K : gC} : gOk K g_Ms mi_142 570 (ga_bin (fun x y => x + y) 571) := gs_iadd (by decide +kernel : decode mi_142.2.1 570 = .ok (.iadd, 1)) rfl
theorem s_142_571 {K : gC} : gOk K g_Ms mi_142 571 (ga_iald 572) := gs_iald (by decide +kernel : decode mi_142.2.1 571 = .ok (.iaload, 1)) rfl
theorem s_142_572 {K : gC} : gOk K g_Ms mi_142 572 (ga_aload 0 573) := gs_aload_n (by decide +kernel : decode mi_142.2.1 572 = .ok (.aload_n 0, 1)) rfl rfl
theorem s_142_573 {K : gC} : gOk K g_Ms mi_142 573 (ga_iload 3 574) := gs_iload_n (by decide +kernel : decode mi_142.2.1 573 = .ok (.iload_n 3, 1)) rfl rfl
theorem s_142_574 {K : gC} : gOk K g_Ms mi_142 574 (ga_push (.int 2) 575) := gs_iconst (by decide +kernel : decode mi_142.2.1 574 = .ok (.iconst 2, 1)) (by decide) rfl
theorem s_142_575 {K : gC} : gOk K g_Ms mi_142 575 (ga_bin (fun x y => x + y) 576) := gs_iadd (by decide +kernel : decode mi_142.2.1 575 = .ok (.iadd, 1)) rfl
theorem s_142_576 {K : gC} : gOk K g_Ms mi_142 576 (ga_iald 577) := gs_iald (by decide +kernel : decode mi_142.2.1 576 = .ok (.iaload, 1)) rfl
theorem s_142_577 {K : gC} : gOk K g_Ms mi_142 577 (ga_aload 0 578) := gs_aload_n (by decide +kernel : decode mi_142.2.1 577 = .ok (.aload_n 0, 1)) rfl rfl
theorem s_142_578 {K : gC} : gOk K g_Ms mi_142 578 (ga_iload 3 579) := gs_iload_n (by decide +kernel : decode mi_142.2.1 578 = .ok (.iload_n 3, 1)) rfl rfl
theorem s_142_579 {K : gC} : gOk K g_Ms mi_142 579 (ga_push (.int 3) 580) := gs_iconst (by decide +kernel : decode mi_142.2.1 579 = .ok (.iconst 3, 1)) (by decide) rfl
theorem s_142_580 {K : gC} : gOk K g_Ms mi_142 580 (ga_bin (fun x y => x + y) 581) := gs_iadd (by decide +kernel : decode mi_142.2.1 580 = .ok (.iadd, 1)) rfl
theorem s_142_581 {K : gC} : gOk K g_Ms mi_142 581 (ga_iald 582) := gs_iald (by decide +kernel : decode mi_142.2.1 581 = .ok (.iaload, 1)) rfl
theorem s_142_582 {K : gC} : gOk K g_Ms mi_142 582 (ga_callV 6 70 3 585) := gs_callV gcls_6 (gce_X6_times (by decide) (by decide)) gw_543 gw_544 gw_545 (by decide +kernel : decode mi_142.2.1 582 = .ok (.invokevirtual 83, 3)) rfl
theorem s_142_585 {K : gC} : gOk K g_Ms mi_142 585 (ga_aload 2 586) := gs_aload_n (by decide +kernel : decode mi_142.2.1 585 = .ok (.aload_n 2, 1)) rfl rfl
theorem s_142_586 {K : gC} : gOk K g_Ms mi_142 586 (ga_aload 0 587) := gs_aload_n (by decide +kernel : decode mi_142.2.1 586 = .ok (.aload_n 0, 1)) rfl rfl
theorem s_142_587 {K : gC} : gOk K g_Ms mi_142 587 (ga_iload 3 588) := gs_iload_n (by decide +kernel : decode mi_142.2.1 587 = .ok (.iload_n 3, 1)) rfl rfl
theorem s_142_588 {K : gC} : gOk K g_Ms mi_142 588 (ga_push (.int 1) 589) := gs_iconst (by decide +kernel : decode mi_142.2.1 588 = .ok (.iconst 1, 1)) (by decide) rfl
theorem s_142_589 {K : gC} : gOk K g_Ms mi_142 589 (ga_bin (fun x y => x + y) 590) := gs_iadd (by decide +kernel : decode mi_142.2.1 589 = .ok (.iadd, 1)) rfl
theorem s_142_590 {K : gC} : gOk K g_Ms mi_142 590 (ga_iald 591) := gs_iald (by decide +kernel : decode mi_142.2.1 590 = .ok (.iaload, 1)) rfl
theorem s_142_591 {K : gC} : gOk K g_Ms mi_142 591 (ga_aload 0 592) := gs_aload_n (by decide +kernel : decode mi_142.2.1 591 = .ok (.aload_n 0, 1)) rfl rfl
theorem s_142_592 {K : gC} : gOk K g_Ms mi_142 592 (ga_iload 3 593) := gs_iload_n (by decide +kernel : decode mi_142.2.1 592 = .ok (.iload_n 3, 1)) rfl rfl
theorem s_142_593 {K : gC} : gOk K g_Ms mi_142 593 (ga_push (.int 2) 594) := gs_iconst (by decide +kernel : decode mi_142.2.1 593 = .ok (.iconst 2, 1)) (by decide) rfl
theorem s_142_594 {K : gC} : gOk K g_Ms mi_142 594 (ga_bin (fun x y => x + y) 595) := gs_iadd (by decide +kernel : decode mi_142.2.1 594 = .ok (.iadd, 1)) rfl
theorem s_142_595 {K : gC} : gOk K g_Ms mi_142 595 (ga_iald 596) := gs_iald (by decide +kernel : decode mi_142.2.1 595 = .ok (.iaload, 1)) rfl
theorem s_142_596 {K : gC} : gOk K g_Ms mi_142 596 (ga_aload 0 597) := gs_aload_n (by decide +kernel : decode mi_142.2.1 596 = .ok (.aload_n 0, 1)) rfl rfl
theorem s_142_597 {K : gC} : gOk K g_Ms mi_142 597 (ga_iload 3 598) := gs_iload_n (by decide +kernel : decode mi_142.2.1 597 = .ok (.iload_n 3, 1)) rfl rfl
theorem s_142_598 {K : gC} : gOk K g_Ms mi_142 598 (ga_push (.int 3) 599) := gs_iconst (by decide +kernel : decode mi_142.2.1 598 = .ok (.iconst 3, 1)) (by decide) rfl
theorem s_142_599 {K : gC} : gOk K g_Ms mi_142 599 (ga_bin (fun x y => x + y) 600) := gs_iadd (by decide +kernel : decode mi_142.2.1 599 = .ok (.iadd, 1)) rfl
theorem s_142_600 {K : gC} : gOk K g_Ms mi_142 600 (ga_iald 601) := gs_iald (by decide +kernel : decode mi_142.2.1 600 = .ok (.iaload, 1)) rfl
theorem s_142_601 {K : gC} : gOk K g_Ms mi_142 601 (ga_callV 7 119 3 604) := gs_callV gcls_7 (gce_X7_times (by decide) (by decide)) gw_903 gw_904 gw_905 (by decide +kernel : decode mi_142.2.1 601 = .ok (.invokevirtual 87, 3)) rfl
theorem s_142_604 {K : gC} : gOk K g_Ms mi_142 604 (ga_cmp (fun x y => decide (x = y)) 893 607) := gs_cmp_eq (by decide +kernel : decode mi_142.2.1 604 = .ok (.if_icmp .eq 289, 3)) (by decide) rfl
theorem s_142_607 {K : gC} : gOk K g_Ms mi_142 607 (ga_push (.int 0) 608) := gs_iconst (by decide +kernel : decode mi_142.2.1 607 = .ok (.iconst 0, 1)) (by decide) rfl
theorem s_142_608 {K : gC} : gOk K g_Ms mi_142 608 (ga_zret) := gs_zret (by decide +kernel : decode mi_142.2.1 608 = .ok (.ireturn, 1)) rfl rfl rfl
theorem s_142_609 {K : gC} : gOk K g_Ms mi_142 609 (ga_aload 1 610) := gs_aload_n (by decide +kernel : decode mi_142.2.1 609 = .ok (.aload_n 1, 1)) rfl rfl
theorem s_142_610 {K : gC} : gOk K g_Ms mi_142 610 (ga_aload 0 611) := gs_aload_n (by decide +kernel : decode mi_142.2.1 610 = .ok (.aload_n 0, 1)) rfl rfl
theorem s_142_611 {K : gC} : gOk K g_Ms mi_142 611 (ga_iload 3 612) := gs_iload_n (by decide +kernel : decode mi_142.2.1 611 = .ok (.iload_n 3, 1)) rfl rfl
theorem s_142_612 {K : gC} : gOk K g_Ms mi_142 612 (ga_push (.int 1) 613) := gs_iconst (by decide +kernel : decode mi_142.2.1 612 = .ok (.iconst 1, 1)) (by decide) rfl
theorem s_142_613 {K : gC} : gOk K g_Ms mi_142 613 (ga_bin (fun x y => x + y) 614) := gs_iadd (by decide +kernel : decode mi_142.2.1 613 = .ok (.iadd, 1)) rfl
theorem s_142_614 {K : gC} : gOk K g_Ms mi_142 614 (ga_iald 615) := gs_iald (by decide +kernel : decode mi_142.2.1 614 = .ok (.iaload, 1)) rfl
theorem s_142_615 {K : gC} : gOk K g_Ms mi_142 615 (ga_aload 0 616) := gs_aload_n (by decide +kernel : decode mi_142.2.1 615 = .ok (.aload_n 0, 1)) rfl rfl
theorem s_142_616 {K : gC} : gOk K g_Ms mi_142 616 (ga_iload 3 617) := gs_iload_n (by decide +kernel : decode mi_142.2.1 616 = .ok (.iload_n 3, 1)) rfl rfl
theorem s_142_617 {K : gC} : gOk K g_Ms mi_142 617 (ga_push (.int 2) 618) := gs_iconst (by decide +kernel : decode mi_142.2.1 617 = .ok (.iconst 2, 1)) (by decide) rfl
theorem s_142_618 {K : gC} : gOk K g_Ms mi_142 618 (ga_bin (fun x y => x + y) 619) := gs_iadd (by decide +kernel : decode mi_142.2.1 618 = .ok (.iadd, 1)) rfl
theorem s_142_619 {K : gC} : gOk K g_Ms mi_142 619 (ga_iald 620) := gs_iald (by decide +kernel : decode mi_142.2.1 619 = .ok (.iaload, 1)) rfl
theorem s_142_620 {K : gC} : gOk K g_Ms mi_142 620 (ga_aload 0 621) := gs_aload_n (by decide +kernel : decode mi_142.2.1 620 = .ok (.aload_n 0, 1)) rfl rfl
theorem s_142_621 {K : gC} : gOk K g_Ms mi_142 621 (ga_iload 3 622) := gs_iload_n (by decide +kernel : decode mi_142.2.1 621 = .ok (.iload_n 3, 1)) rfl rfl
theorem s_142_622 {K : gC} : gOk K g_Ms mi_142 622 (ga_push (.int 3) 623) := gs_iconst (by decide +kernel : decode mi_142.2.1 622 = .ok (.iconst 3, 1)) (by decide) rfl
theorem s_142_623 {K : gC} : gOk K g_Ms mi_142 623 (ga_bin (fun x y => x + y) 624) := gs_iadd (by decide +kernel : decode mi_142.2.1 623 = .ok (.iadd, 1)) rfl
theorem s_142_624 {K : gC} : gOk K g_Ms mi_142 624 (ga_iald 625) := gs_iald (by decide +kernel : decode mi_142.2.1 624 = .ok (.iaload, 1)) rfl
theorem s_142_625 {K : gC} : gOk K g_Ms mi_142 625 (ga_callV 6 71 3 628) := gs_callV gcls_6 (gce_X6_apart (by decide) (by decide)) gw_554 gw_555 gw_556 (by decide +kernel : decode mi_142.2.1 625 = .ok (.invokevirtual 88, 3)) rfl
theorem s_142_628 {K : gC} : gOk K g_Ms mi_142 628 (ga_aload 2 629) := gs_aload_n (by decide +kernel : decode mi_142.2.1 628 = .ok (.aload_n 2, 1)) rfl rfl
theorem s_142_629 {K : gC} : gOk K g_Ms mi_142 629 (ga_aload 0 630) := gs_aload_n (by decide +kernel : decode mi_142.2.1 629 = .ok (.aload_n 0, 1)) rfl rfl
theorem s_142_630 {K : gC} : gOk K g_Ms mi_142 630 (ga_iload 3 631) := gs_iload_n (by decide +kernel : decode mi_142.2.1 630 = .ok (.iload_n 3, 1)) rfl rfl
theorem s_142_631 {K : gC} : gOk K g_Ms mi_142 631 (ga_push (.int 1) 632) := gs_iconst (by decide +kernel : decode mi_142.2.1 631 = .ok (.iconst 1, 1)) (by decide) rfl
theorem s_142_632 {K : gC} : gOk K g_Ms mi_142 632 (ga_bin (fun x y => x + y) 633) := gs_iadd (by decide +kernel : decode mi_142.2.1 632 = .ok (.iadd, 1)) rfl
theorem s_142_633 {K : gC} : gOk K g_Ms mi_142 633 (ga_iald 634) := gs_iald (by decide +kernel : decode mi_142.2.1 633 = .ok (.iaload, 1)) rfl
theorem s_142_634 {K : gC} : gOk K g_Ms mi_142 634 (ga_aload 0 635) := gs_aload_n (by decide +kernel : decode mi_142.2.1 634 = .ok (.aload_n 0, 1)) rfl rfl
theorem s_142_635 {K : gC} : gOk K g_Ms mi_142 635 (ga_iload 3 636) := gs_iload_n (by decide +kernel : decode mi_142.2.1 635 = .ok (.iload_n 3, 1)) rfl rfl
theorem s_142_636 {K : gC} : gOk K g_Ms mi_142 636 (ga_push (.int 2) 637) := gs_iconst (by decide +kernel : decode mi_142.2.1 636 = .ok (.iconst 2, 1)) (by decide) rfl
theorem s_142_637 {K : gC} : gOk K g_Ms mi_142 637 (ga_bin (fun x y => x + y) 638) := gs_iadd (by decide +kernel : decode mi_142.2.1 637 = .ok (.iadd, 1)) rfl
theorem s_142_638 {K : gC} : gOk K g_Ms mi_142 638 (ga_iald 639) := gs_iald (by decide +kernel : decode mi_142.2.1 638 = .ok (.iaload, 1)) rfl
theorem s_142_639 {K : gC} : gOk K g_Ms mi_142 639 (ga_aload 0 640) := gs_aload_n (by decide +kernel : decode mi_142.2.1 639 = .ok (.aload_n 0, 1)) rfl rfl
theorem s_142_640 {K : gC} : gOk K g_Ms mi_142 640 (ga_iload 3 641) := gs_iload_n (by decide +kernel : decode mi_142.2.1 640 = .ok (.iload_n 3, 1)) rfl rfl
theorem s_142_641 {K : gC} : gOk K g_Ms mi_142 641 (ga_push (.int 3) 642) := gs_iconst (by decide +kernel : decode mi_142.2.1 641 = .ok (.iconst 3, 1)) (by decide) rfl
theorem s_142_642 {K : gC} : gOk K g_Ms mi_142 642 (ga_bin (fun x y => x + y) 643) := gs_iadd (by decide +kernel : decode mi_142.2.1 642 = .ok (.iadd, 1)) rfl
theorem s_142_643 {K : gC} : gOk K g_Ms mi_142 643 (ga_iald 644) := gs_iald (by decide +kernel : decode mi_142.2.1 643 = .ok (.iaload, 1)) rfl
theorem s_142_644 {K : gC} : gOk K g_Ms mi_142 644 (ga_callV 7 121 3 647) := gs_callV gcls_7 (gce_X7_apart (by decide) (by decide)) gw_907 gw_908 gw_909 (by decide +kernel : decode mi_142.2.1 644 = .ok (.invokevirtual 91, 3)) rfl
theorem s_142_647 {K : gC} : gOk K g_Ms mi_142 647 (ga_cmp (fun x y => decide (x = y)) 893 650) := gs_cmp_eq (by decide +kernel : decode mi_142.2.1 647 = .ok (.if_icmp .eq 246, 3)) (by decide) rfl
theorem s_142_650 {K : gC} : gOk K g_Ms mi_142 650 (ga_push (.int 0) 651) := gs_iconst (by decide +kernel : decode mi_142.2.1 650 = .ok (.iconst 0, 1)) (by decide) rfl
theorem s_142_651 {K : gC} : gOk K g_Ms mi_142 651 (ga_zret) := gs_zret (by decide +kernel : decode mi_142.2.1 651 = .ok (.ireturn, 1)) rfl rfl rfl
theorem s_142_652 {K : gC} : gOk K g_Ms mi_142 652 (ga_aload 1 653) := gs_aload_n (by decide +kernel : decode mi_142.2.1 652 = .ok (.aload_n 1, 1)) rfl rfl
theorem s_142_653 {K : gC} : gOk K g_Ms mi_142 653 (ga_aload 0 654) := gs_aload_n (by decide +kernel : decode mi_142.2.1 653 = .ok (.aload_n 0, 1)) rfl rfl
theorem s_142_654 {K : gC} : gOk K g_Ms mi_142 654 (ga_iload 3 655) := gs_iload_n (by decide +kernel : decode mi_142.2.1 654 = .ok (.iload_n 3, 1)) rfl rfl
theorem s_142_655 {K : gC} : gOk K g_Ms mi_142 655 (ga_push (.int 1) 656) := gs_iconst (by decide +kernel : decode mi_142.2.1 655 = .ok (.iconst 1, 1)) (by decide) rfl
theorem s_142_656 {K : gC} : gOk K g_Ms mi_142 656 (ga_bin (fun x y => x + y) 657) := gs_iadd (by decide +kernel : decode mi_142.2.1 656 = .ok (.iadd, 1)) rfl
theorem s_142_657 {K : gC} : gOk K g_Ms mi_142 657 (ga_iald 658) := gs_iald (by decide +kernel : decode mi_142.2.1 657 = .ok (.iaload, 1)) rfl
theorem s_142_658 {K : gC} : gOk K g_Ms mi_142 658 (ga_aload 0 659) := gs_aload_n (by decide +kernel : decode mi_142.2.1 658 = .ok (.aload_n 0, 1)) rfl rfl
theorem s_142_659 {K : gC} : gOk K g_Ms mi_142 659 (ga_iload 3 660) := gs_iload_n (by decide +kernel : decode mi_142.2.1 659 = .ok (.iload_n 3, 1)) rfl rfl
theorem s_142_660 {K : gC} : gOk K g_Ms mi_142 660 (ga_push (.int 2) 661) := gs_iconst (by decide +kernel : decode mi_142.2.1 660 = .ok (.iconst 2, 1)) (by decide) rfl
theorem s_142_661 {K : gC} : gOk K g_Ms mi_142 661 (ga_bin (fun x y => x + y) 662) := gs_iadd (by decide +kernel : decode mi_142.2.1 661 = .ok (.iadd, 1)) rfl
theorem s_142_662 {K : gC} : gOk K g_Ms mi_142 662 (ga_iald 663) := gs_iald (by decide +kernel : decode mi_142.2.1 662 = .ok (.iaload, 1)) rfl
theorem s_142_663 {K : gC} : gOk K g_Ms mi_142 663 (ga_aload 0 664) := gs_aload_n (by decide +kernel : decode mi_142.2.1 663 = .ok (.aload_n 0, 1)) rfl rfl
theorem s_142_664 {K : gC} : gOk K g_Ms mi_142 664 (ga_iload 3 665) := gs_iload_n (by decide +kernel : decode mi_142.2.1 664 = .ok (.iload_n 3, 1)) rfl rfl
theorem s_142_665 {K : gC} : gOk K g_Ms mi_142 665 (ga_push (.int 3) 666) := gs_iconst (by decide +kernel : decode mi_142.2.1 665 = .ok (.iconst 3, 1)) (by decide) rfl
theorem s_142_666 {K : gC} : gOk K g_Ms mi_142 666 (ga_bin (fun x y => x + y) 667) := gs_iadd (by decide +kernel : decode mi_142.2.1 666 = .ok (.iadd, 1)) rfl
theorem s_142_667 {K : gC} : gOk K g_Ms mi_142 667 (ga_iald 668) := gs_iald (by decide +kernel : decode mi_142.2.1 667 = .ok (.iaload, 1)) rfl
theorem s_142_668 {K : gC} : gOk K g_Ms mi_142 668 (ga_aload 0 669) := gs_aload_n (by decide +kernel : decode mi_142.2.1 668 = .ok (.aload_n 0, 1)) rfl rfl
theorem s_142_669 {K : gC} : gOk K g_Ms mi_142 669 (ga_iload 3 670) := gs_iload_n (by decide +kernel : decode mi_142.2.1 669 = .ok (.iload_n 3, 1)) rfl rfl
theorem s_142_670 {K : gC} : gOk K g_Ms mi_142 670 (ga_push (.int 4) 671) := gs_iconst (by decide +kernel : decode mi_142.2.1 670 = .ok (.iconst 4, 1)) (by decide) rfl
theorem s_142_671 {K : gC} : gOk K g_Ms mi_142 671 (ga_bin (fun x y => x + y) 672) := gs_iadd (by decide +kernel : decode mi_142.2.1 671 = .ok (.iadd, 1)) rfl
theorem s_142_672 {K : gC} : gOk K g_Ms mi_142 672 (ga_iald 673) := gs_iald (by decide +kernel : decode mi_142.2.1 672 = .ok (.iaload, 1)) rfl
theorem s_142_673 {K : gC} : gOk K g_Ms mi_142 673 (ga_callV 6 72 4 676) := gs_callV gcls_6 (gce_X6_change (by decide) (by decide)) gw_565 gw_566 gw_567 (by decide +kernel : decode mi_142.2.1 673 = .ok (.invokevirtual 92, 3)) rfl
theorem s_142_676 {K : gC} : gOk K g_Ms mi_142 676 (ga_aload 2 677) := gs_aload_n (by decide +kernel : decode mi_142.2.1 676 = .ok (.aload_n 2, 1)) rfl rfl
theorem s_142_677 {K : gC} : gOk K g_Ms mi_142 677 (ga_aload 0 678) := gs_aload_n (by decide +kernel : decode mi_142.2.1 677 = .ok (.aload_n 0, 1)) rfl rfl
theorem s_142_678 {K : gC} : gOk K g_Ms mi_142 678 (ga_iload 3 679) := gs_iload_n (by decide +kernel : decode mi_142.2.1 678 = .ok (.iload_n 3, 1)) rfl rfl
theorem s_142_679 {K : gC} : gOk K g_Ms mi_142 679 (ga_push (.int 1) 680) := gs_iconst (by decide +kernel : decode mi_142.2.1 679 = .ok (.iconst 1, 1)) (by decide) rfl
theorem s_142_680 {K : gC} : gOk K g_Ms mi_142 680 (ga_bin (fun x y => x + y) 681) := gs_iadd (by decide +kernel : decode mi_142.2.1 680 = .ok (.iadd, 1)) rfl
theorem s_142_681 {K : gC} : gOk K g_Ms mi_142 681 (ga_iald 682) := gs_iald (by decide +kernel : decode mi_142.2.1 681 = .ok (.iaload, 1)) rfl
theorem s_142_682 {K : gC} : gOk K g_Ms mi_142 682 (ga_aload 0 683) := gs_aload_n (by decide +kernel : decode mi_142.2.1 682 = .ok (.aload_n 0, 1)) rfl rfl
theorem s_142_683 {K : gC} : gOk K g_Ms mi_142 683 (ga_iload 3 684) := gs_iload_n (by decide +kernel : decode mi_142.2.1 683 = .ok (.iload_n 3, 1)) rfl rfl
theorem s_142_684 {K : gC} : gOk K g_Ms mi_142 684 (ga_push (.int 2) 685) := gs_iconst (by decide +kernel : decode mi_142.2.1 684 = .ok (.iconst 2, 1)) (by decide) rfl
theorem s_142_685 {K : gC} : gOk K g_Ms mi_142 685 (ga_bin (fun x y => x + y) 686) := gs_iadd (by decide +kernel : decode mi_142.2.1 685 = .ok (.iadd, 1)) rfl
theorem s_142_686 {K : gC} : gOk K g_Ms mi_142 686 (ga_iald 687) := gs_iald (by decide +kernel : decode mi_142.2.1 686 = .ok (.iaload, 1)) rfl
theorem s_142_687 {K : gC} : gOk K g_Ms mi_142 687 (ga_aload 0 688) := gs_aload_n (by decide +kernel : decode mi_142.2.1 687 = .ok (.aload_n 0, 1)) rfl rfl
theorem s_142_688 {K : gC} : gOk K g_Ms mi_142 688 (ga_iload 3 689) := gs_iload_n (by decide +kernel : decode mi_142.2.1 688 = .ok (.iload_n 3, 1)) rfl rfl
theorem s_142_689 {K : gC} : gOk K g_Ms mi_142 689 (ga_push (.int 3) 690) := gs_iconst (by decide +kernel : decode mi_142.2.1 689 = .ok (.iconst 3, 1)) (by decide) rfl
theorem s_142_690 {K : gC} : gOk K g_Ms mi_142 690 (ga_bin (fun x y => x + y) 691) := gs_iadd (by decide +kernel : decode mi_142.2.1 690 = .ok (.iadd, 1)) rfl
theorem s_142_691 {K : gC} : gOk K g_Ms mi_142 691 (ga_iald 692) := gs_iald (by decide +kernel : decode mi_142.2.1 691 = .ok (.iaload, 1)) rfl
theorem s_142_692 {K : gC} : gOk K g_Ms mi_142 692 (ga_aload 0 693) := gs_aload_n (by decide +kernel : decode mi_142.2.1 692 = .ok (.aload_n 0, 1)) rfl rfl
theorem s_142_693 {K : gC} : gOk K g_Ms mi_142 693 (ga_iload 3 694) := gs_iload_n (by decide +kernel : decode mi_142.2.1 693 = .ok (.iload_n 3, 1)) rfl rfl
theorem s_142_694 {K : gC} : gOk K g_Ms mi_142 694 (ga_push (.int 4) 695) := gs_iconst (by decide +kernel : decode mi_142.2.1 694 = .ok (.iconst 4, 1)) (by decide) rfl
theorem s_142_695 {K : gC} : gOk K g_Ms mi_142 695 (ga_bin (fun x y => x + y) 696) := gs_iadd (by decide +kernel : decode mi_142.2.1 695 = .ok (.iadd, 1)) rfl
theorem s_142_696 {K : gC} : gOk K g_Ms mi_142 696 (ga_iald 697) := gs_iald (by decide +kernel : decode mi_142.2.1 696 = .ok (.iaload, 1)) rfl
theorem s_142_697 {K : gC} : gOk K g_Ms mi_142 697 (ga_callV 7 123 4 700) := gs_callV gcls_7 (gce_X7_change (by decide) (by decide)) gw_915 gw_916 gw_917 (by decide +kernel : decode mi_142.2.1 697 = .ok (.invokevirtual 96, 3)) rfl
theorem s_142_700 {K : gC} : gOk K g_Ms mi_142 700 (ga_cmp (fun x y => decide (x = y)) 893 703) := gs_cmp_eq (by decide +kernel : decode mi_142.2.1 700 = .ok (.if_icmp .eq 193, 3)) (by decide) rfl
theorem s_142_703 {K : gC} : gOk K g_Ms mi_142 703 (ga_push (.int 0) 704) := gs_iconst (by decide +kernel : decode mi_142.2.1 703 = .ok (.iconst 0, 1)) (by decide) rfl
theorem s_142_704 {K : gC} : gOk K g_Ms mi_142 704 (ga_zret) := gs_zret (by decide +kernel : decode mi_142.2.1 704 = .ok (.ireturn, 1)) rfl rfl rfl
theorem s_142_705 {K : gC} : gOk K g_Ms mi_142 705 (ga_aload 1 706) := gs_aload_n (by decide +kernel : decode mi_142.2.1 705 = .ok (.aload_n 1, 1)) rfl rfl
theorem s_142_706 {K : gC} : gOk K g_Ms mi_142 706 (ga_aload 0 707) := gs_aload_n (by decide +kernel : decode mi_142.2.1 706 = .ok (.aload_n 0, 1)) rfl rfl
theorem s_142_707 {K : gC} : gOk K g_Ms mi_142 707 (ga_iload 3 708) := gs_iload_n (by decide +kernel : decode mi_142.2.1 707 = .ok (.iload_n 3, 1)) rfl rfl
theorem s_142_708 {K : gC} : gOk K g_Ms mi_142 708 (ga_push (.int 1) 709) := gs_iconst (by decide +kernel : decode mi_142.2.1 708 = .ok (.iconst 1, 1)) (by decide) rfl
theorem s_142_709 {K : gC} : gOk K g_Ms mi_142 709 (ga_bin (fun x y => x + y) 710) := gs_iadd (by decide +kernel : decode mi_142.2.1 709 = .ok (.iadd, 1)) rfl
theorem s_142_710 {K : gC} : gOk K g_Ms mi_142 710 (ga_iald 711) := gs_iald (by decide +kernel : decode mi_142.2.1 710 = .ok (.iaload, 1)) rfl
theorem s_142_711 {K : gC} : gOk K g_Ms mi_142 711 (ga_aload 0 712) := gs_aload_n (by decide +kernel : decode mi_142.2.1 711 = .ok (.aload_n 0, 1)) rfl rfl
theorem s_142_712 {K : gC} : gOk K g_Ms mi_142 712 (ga_iload 3 713) := gs_iload_n (by decide +kernel : decode mi_142.2.1 712 = .ok (.iload_n 3, 1)) rfl rfl
theorem s_142_713 {K : gC} : gOk K g_Ms mi_142 713 (ga_push (.int 2) 714) := gs_iconst (by decide +kernel : decode mi_142.2.1 713 = .ok (.iconst 2, 1)) (by decide) rfl
theorem s_142_714 {K : gC} : gOk K g_Ms mi_142 714 (ga_bin (fun x y => x + y) 715) := gs_iadd (by decide +kernel : decode mi_142.2.1 714 = .ok (.iadd, 1)) rfl
theorem s_142_715 {K : gC} : gOk K g_Ms mi_142 715 (ga_iald 716) := gs_iald (by decide +kernel : decode mi_142.2.1 715 = .ok (.iaload, 1)) rfl
theorem s_142_716 {K : gC} : gOk K g_Ms mi_142 716 (ga_callV 6 73 2 719) := gs_callV gcls_6 (gce_X6_over (by decide) (by decide)) gw_586 gw_587 gw_588 (by decide +kernel : decode mi_142.2.1 716 = .ok (.invokevirtual 97, 3)) rfl
theorem s_142_719 {K : gC} : gOk K g_Ms mi_142 719 (ga_aload 2 720) := gs_aload_n (by decide +kernel : decode mi_142.2.1 719 = .ok (.aload_n 2, 1)) rfl rfl
theorem s_142_720 {K : gC} : gOk K g_Ms mi_142 720 (ga_aload 0 721) := gs_aload_n (by decide +kernel : decode mi_142.2.1 720 = .ok (.aload_n 0, 1)) rfl rfl
theorem s_142_721 {K : gC} : gOk K g_Ms mi_142 721 (ga_iload 3 722) := gs_iload_n (by decide +kernel : decode mi_142.2.1 721 = .ok (.iload_n 3, 1)) rfl rfl
theorem s_142_722 {K : gC} : gOk K g_Ms mi_142 722 (ga_push (.int 1) 723) := gs_iconst (by decide +kernel : decode mi_142.2.1 722 = .ok (.iconst 1, 1)) (by decide) rfl
theorem s_142_723 {K : gC} : gOk K g_Ms mi_142 723 (ga_bin (fun x y => x + y) 724) := gs_iadd (by decide +kernel : decode mi_142.2.1 723 = .ok (.iadd, 1)) rfl
theorem s_142_724 {K : gC} : gOk K g_Ms mi_142 724 (ga_iald 725) := gs_iald (by decide +kernel : decode mi_142.2.1 724 = .ok (.iaload, 1)) rfl
theorem s_142_725 {K : gC} : gOk K g_Ms mi_142 725 (ga_aload 0 726) := gs_aload_n (by decide +kernel : decode mi_142.2.1 725 = .ok (.aload_n 0, 1)) rfl rfl
theorem s_142_726 {K : gC} : gOk K g_Ms mi_142 726 (ga_iload 3 727) := gs_iload_n (by decide +kernel : decode mi_142.2.1 726 = .ok (.iload_n 3, 1)) rfl rfl
theorem s_142_727 {K : gC} : gOk K g_Ms mi_142 727 (ga_push (.int 2) 728) := gs_iconst (by decide +kernel : decode mi_142.2.1 727 = .ok (.iconst 2, 1)) (by decide) rfl
theorem s_142_728 {K : gC} : gOk K g_Ms mi_142 728 (ga_bin (fun x y => x + y) 729) := gs_iadd (by decide +kernel : decode mi_142.2.1 728 = .ok (.iadd, 1)) rfl
theorem s_142_729 {K : gC} : gOk K g_Ms mi_142 729 (ga_iald 730) := gs_iald (by decide +kernel : decode mi_142.2.1 729 = .ok (.iaload, 1)) rfl
theorem s_142_730 {K : gC} : gOk K g_Ms mi_142 730 (ga_callV 7 126 2 733) := gs_callV gcls_7 (gce_X7_over (by decide) (by decide)) gw_923 gw_924 gw_925 (by decide +kernel : decode mi_142.2.1 730 = .ok (.invokevirtual 100, 3)) rfl
theorem s_142_733 {K : gC} : gOk K g_Ms mi_142 733 (ga_cmp (fun x y => decide (x = y)) 893 736) := gs_cmp_eq (by decide +kernel : decode mi_142.2.1 733 = .ok (.if_icmp .eq 160, 3)) (by decide) rfl
theorem s_142_736 {K : gC} : gOk K g_Ms mi_142 736 (ga_push (.int 0) 737) := gs_iconst (by decide +kernel : decode mi_142.2.1 736 = .ok (.iconst 0, 1)) (by decide) rfl
theorem s_142_737 {K : gC} : gOk K g_Ms mi_142 737 (ga_zret) := gs_zret (by decide +kernel : decode mi_142.2.1 737 = .ok (.ireturn, 1)) rfl rfl rfl
theorem s_142_738 {K : gC} : gOk K g_Ms mi_142 738 (ga_aload 1 739) := gs_aload_n (by decide +kernel : decode mi_142.2.1 738 = .ok (.aload_n 1, 1)) rfl rfl
theorem s_142_739 {K : gC} : gOk K g_Ms mi_142 739 (ga_aload 0 740) := gs_aload_n (by decide +kernel : decode mi_142.2.1 739 = .ok (.aload_n 0, 1)) rfl rfl
theorem s_142_740 {K : gC} : gOk K g_Ms mi_142 740 (ga_iload 3 741) := gs_iload_n (by decide +kernel : decode mi_142.2.1 740 = .ok (.iload_n 3, 1)) rfl rfl
theorem s_142_741 {K : gC} : gOk K g_Ms mi_142 741 (ga_push (.int 1) 742) := gs_iconst (by decide +kernel : decode mi_142.2.1 741 = .ok (.iconst 1, 1)) (by decide) rfl
theorem s_142_742 {K : gC} : gOk K g_Ms mi_142 742 (ga_bin (fun x y => x + y) 743) := gs_iadd (by decide +kernel : decode mi_142.2.1 742 = .ok (.iadd, 1)) rfl
theorem s_142_743 {K : gC} : gOk K g_Ms mi_142 743 (ga_iald 744) := gs_iald (by decide +kernel : decode mi_142.2.1 743 = .ok (.iaload, 1)) rfl
theorem s_142_744 {K : gC} : gOk K g_Ms mi_142 744 (ga_aload 0 745) := gs_aload_n (by decide +kernel : decode mi_142.2.1 744 = .ok (.aload_n 0, 1)) rfl rfl
theorem s_142_745 {K : gC} : gOk K g_Ms mi_142 745 (ga_iload 3 746) := gs_iload_n (by decide +kernel : decode mi_142.2.1 745 = .ok (.iload_n 3, 1)) rfl rfl
theorem s_142_746 {K : gC} : gOk K g_Ms mi_142 746 (ga_push (.int 2) 747) := gs_iconst (by decide +kernel : decode mi_142.2.1 746 = .ok (.iconst 2, 1)) (by decide) rfl
theorem s_142_747 {K : gC} : gOk K g_Ms mi_142 747 (ga_bin (fun x y => x + y) 748) := gs_iadd (by decide +kernel : decode mi_142.2.1 747 = .ok (.iadd, 1)) rfl
theorem s_142_748 {K : gC} : gOk K g_Ms mi_142 748 (ga_iald 749) := gs_iald (by decide +kernel : decode mi_142.2.1 748 = .ok (.iaload, 1)) rfl
theorem s_142_749 {K : gC} : gOk K g_Ms mi_142 749 (ga_aload 0 750) := gs_aload_n (by decide +kernel : decode mi_142.2.1 749 = .ok (.aload_n 0, 1)) rfl rfl
theorem s_142_750 {K : gC} : gOk K g_Ms mi_142 750 (ga_iload 3 751) := gs_iload_n (by decide +kernel : decode mi_142.2.1 750 = .ok (.iload_n 3, 1)) rfl rfl
theorem s_142_751 {K : gC} : gOk K g_Ms mi_142 751 (ga_push (.int 3) 752) := gs_iconst (by decide +kernel : decode mi_142.2.1 751 = .ok (.iconst 3, 1)) (by decide) rfl
theorem s_142_752 {K : gC} : gOk K g_Ms mi_142 752 (ga_bin (fun x y => x + y) 753) := gs_iadd (by decide +kernel : decode mi_142.2.1 752 = .ok (.iadd, 1)) rfl
theorem s_142_753 {K : gC} : gOk K g_Ms mi_142 753 (ga_iald 754) := gs_iald (by decide +kernel : decode mi_142.2.1 753 = .ok (.iaload, 1)) rfl
theorem s_142_754 {K : gC} : gOk K g_Ms mi_142 754 (ga_aload 0 755) := gs_aload_n (by decide +kernel : decode mi_142.2.1 754 = .ok (.aload_n 0, 1)) rfl rfl
theorem s_142_755 {K : gC} : gOk K g_Ms mi_142 755 (ga_iload 3 756) := gs_iload_n (by decide +kernel : decode mi_142.2.1 755 = .ok (.iload_n 3, 1)) rfl rfl
theorem s_142_756 {K : gC} : gOk K g_Ms mi_142 756 (ga_push (.int 4) 757) := gs_iconst (by decide +kernel : decode mi_142.2.1 756 = .ok (.iconst 4, 1)) (by decide) rfl
theorem s_142_757 {K : gC} : gOk K g_Ms mi_142 757 (ga_bin (fun x y => x + y) 758) := gs_iadd (by decide +kernel : decode mi_142.2.1 757 = .ok (.iadd, 1)) rfl
theorem s_142_758 {K : gC} : gOk K g_Ms mi_142 758 (ga_iald 759) := gs_iald (by decide +kernel : decode mi_142.2.1 758 = .ok (.iaload, 1)) rfl
theorem s_142_759 {K : gC} : gOk K g_Ms mi_142 759 (ga_callV 6 74 4 762) := gs_callV gcls_6 (gce_X6_odds (by decide) (by decide)) gw_600 gw_601 gw_602 (by decide +kernel : decode mi_142.2.1 759 = .ok (.invokevirtual 101, 3)) rfl
theorem s_142_762 {K : gC} : gOk K g_Ms mi_142 762 (ga_aload 2 763) := gs_aload_n (by decide +kernel : decode mi_142.2.1 762 = .ok (.aload_n 2, 1)) rfl rfl
theorem s_142_763 {K : gC} : gOk K g_Ms mi_142 763 (ga_aload 0 764) := gs_aload_n (by decide +kernel : decode mi_142.2.1 763 = .ok (.aload_n 0, 1)) rfl rfl
theorem s_142_764 {K : gC} : gOk K g_Ms mi_142 764 (ga_iload 3 765) := gs_iload_n (by decide +kernel : decode mi_142.2.1 764 = .ok (.iload_n 3, 1)) rfl rfl
theorem s_142_765 {K : gC} : gOk K g_Ms mi_142 765 (ga_push (.int 1) 766) := gs_iconst (by decide +kernel : decode mi_142.2.1 765 = .ok (.iconst 1, 1)) (by decide) rfl
theorem s_142_766 {K : gC} : gOk K g_Ms mi_142 766 (ga_bin (fun x y => x + y) 767) := gs_iadd (by decide +kernel : decode mi_142.2.1 766 = .ok (.iadd, 1)) rfl
theorem s_142_767 {K : gC} : gOk K g_Ms mi_142 767 (ga_iald 768) := gs_iald (by decide +kernel : decode mi_142.2.1 767 = .ok (.iaload, 1)) rfl
theorem s_142_768 {K : gC} : gOk K g_Ms mi_142 768 (ga_aload 0 769) := gs_aload_n (by decide +kernel : decode mi_142.2.1 768 = .ok (.aload_n 0, 1)) rfl rfl
theorem s_142_769 {K : gC} : gOk K g_Ms mi_142 769 (ga_iload 3 770) := gs_iload_n (by decide +kernel : decode mi_142.2.1 769 = .ok (.iload_n 3, 1)) rfl rfl
theorem s_142_770 {K : gC} : gOk K g_Ms mi_142 770 (ga_push (.int 2) 771) := gs_iconst (by decide +kernel : decode mi_142.2.1 770 = .ok (.iconst 2, 1)) (by decide) rfl
theorem s_142_771 {K : gC} : gOk K g_Ms mi_142 771 (ga_bin (fun x y => x + y) 772) := gs_iadd (by decide +kernel : decode mi_142.2.1 771 = .ok (.iadd, 1)) rfl
theorem s_142_772 {K : gC} : gOk K g_Ms mi_142 772 (ga_iald 773) := gs_iald (by decide +kernel : decode mi_142.2.1 772 = .ok (.iaload, 1)) rfl
theorem s_142_773 {K : gC} : gOk K g_Ms mi_142 773 (ga_aload 0 774) := gs_aload_n (by decide +kernel : decode mi_142.2.1 773 = .ok (.aload_n 0, 1)) rfl rfl
theorem s_142_774 {K : gC} : gOk K g_Ms mi_142 774 (ga_iload 3 775) := gs_iload_n (by decide +kernel : decode mi_142.2.1 774 = .ok (.iload_n 3, 1)) rfl rfl
theorem s_142_775 {K : gC} : gOk K g_Ms mi_142 775 (ga_push (.int 3) 776) := gs_iconst (by decide +kernel : decode mi_142.2.1 775 = .ok (.iconst 3, 1)) (by decide) rfl
theorem s_142_776 {K : gC} : gOk K g_Ms mi_142 776 (ga_bin (fun x y => x + y) 777) := gs_iadd (by decide +kernel : decode mi_142.2.1 776 = .ok (.iadd, 1)) rfl
theorem s_142_777 {K : gC} : gOk K g_Ms mi_142 777 (ga_iald 778) := gs_iald (by decide +kernel : decode mi_142.2.1 777 = .ok (.iaload, 1)) rfl
theorem s_142_778 {K : gC} : gOk K g_Ms mi_142 778 (ga_aload 0 779) := gs_aload_n (by decide +kernel : decode mi_142.2.1 778 = .ok (.aload_n 0, 1)) rfl rfl
theorem s_142_779 {K : gC} : gOk K g_Ms mi_142 779 (ga_iload 3 780) := gs_iload_n (by decide +kernel : decode mi_142.2.1 779 = .ok (.iload_n 3, 1)) rfl rfl
theorem s_142_780 {K : gC} : gOk K g_Ms mi_142 780 (ga_push (.int 4) 781) := gs_iconst (by decide +kernel : decode mi_142.2.1 780 = .ok (.iconst 4, 1)) (by decide) rfl
theorem s_142_781 {K : gC} : gOk K g_Ms mi_142 781 (ga_bin (fun x y => x + y) 782) := gs_iadd (by decide +kernel : decode mi_142.2.1 781 = .ok (.iadd, 1)) rfl
theorem s_142_782 {K : gC} : gOk K g_Ms mi_142 782 (ga_iald 783) := gs_iald (by decide +kernel : decode mi_142.2.1 782 = .ok (.iaload, 1)) rfl
theorem s_142_783 {K : gC} : gOk K g_Ms mi_142 783 (ga_callV 7 127 4 786) := gs_callV gcls_7 (gce_X7_odds (by decide) (by decide)) gw_934 gw_935 gw_936 (by decide +kernel : decode mi_142.2.1 783 = .ok (.invokevirtual 104, 3)) rfl
theorem s_142_786 {K : gC} : gOk K g_Ms mi_142 786 (ga_cmp (fun x y => decide (x = y)) 893 789) := gs_cmp_eq (by decide +kernel : decode mi_142.2.1 786 = .ok (.if_icmp .eq 107, 3)) (by decide) rfl
theorem s_142_789 {K : gC} : gOk K g_Ms mi_142 789 (ga_push (.int 0) 790) := gs_iconst (by decide +kernel : decode mi_142.2.1 789 = .ok (.iconst 0, 1)) (by decide) rfl
theorem s_142_790 {K : gC} : gOk K g_Ms mi_142 790 (ga_zret) := gs_zret (by decide +kernel : decode mi_142.2.1 790 = .ok (.ireturn, 1)) rfl rfl rfl
theorem s_142_791 {K : gC} : gOk K g_Ms mi_142 791 (ga_aload 1 792) := gs_aload_n (by decide +kernel : decode mi_142.2.1 791 = .ok (.aload_n 1, 1)) rfl rfl
theorem s_142_792 {K : gC} : gOk K g_Ms mi_142 792 (ga_aload 0 793) := gs_aload_n (by decide +kernel : decode mi_142.2.1 792 = .ok (.aload_n 0, 1)) rfl rfl
theorem s_142_793 {K : gC} : gOk K g_Ms mi_142 793 (ga_iload 3 794) := gs_iload_n (by decide +kernel : decode mi_142.2.1 793 = .ok (.iload_n 3, 1)) rfl rfl
theorem s_142_794 {K : gC} : gOk K g_Ms mi_142 794 (ga_push (.int 1) 795) := gs_iconst (by decide +kernel : decode mi_142.2.1 794 = .ok (.iconst 1, 1)) (by decide) rfl
theorem s_142_795 {K : gC} : gOk K g_Ms mi_142 795 (ga_bin (fun x y => x + y) 796) := gs_iadd (by decide +kernel : decode mi_142.2.1 795 = .ok (.iadd, 1)) rfl
theorem s_142_796 {K : gC} : gOk K g_Ms mi_142 796 (ga_iald 797) := gs_iald (by decide +kernel : decode mi_142.2.1 796 = .ok (.iaload, 1)) rfl
theorem s_142_797 {K : gC} : gOk K g_Ms mi_142 797 (ga_aload 0 798) := gs_aload_n (by decide +kernel : decode mi_142.2.1 797 = .ok (.aload_n 0, 1)) rfl rfl
theorem s_142_798 {K : gC} : gOk K g_Ms mi_142 798 (ga_iload 3 799) := gs_iload_n (by decide +kernel : decode mi_142.2.1 798 = .ok (.iload_n 3, 1)) rfl rfl
theorem s_142_799 {K : gC} : gOk K g_Ms mi_142 799 (ga_push (.int 2) 800) := gs_iconst (by decide +kernel : decode mi_142.2.1 799 = .ok (.iconst 2, 1)) (by decide) rfl
theorem s_142_800 {K : gC} : gOk K g_Ms mi_142 800 (ga_bin (fun x y => x + y) 801) := gs_iadd (by decide +kernel : decode mi_142.2.1 800 = .ok (.iadd, 1)) rfl
theorem s_142_801 {K : gC} : gOk K g_Ms mi_142 801 (ga_iald 802) := gs_iald (by decide +kernel : decode mi_142.2.1 801 = .ok (.iaload, 1)) rfl
theorem s_142_802 {K : gC} : gOk K g_Ms mi_142 802 (ga_callV 6 78 2 805) := gs_callV gcls_6 (gce_X6_seen (by decide) (by decide)) gw_614 gw_615 gw_616 (by decide +kernel : decode mi_142.2.1 802 = .ok (.invokevirtual 105, 3)) rfl
theorem s_142_805 {K : gC} : gOk K g_Ms mi_142 805 (ga_aload 2 806) := gs_aload_n (by decide +kernel : decode mi_142.2.1 805 = .ok (.aload_n 2, 1)) rfl rfl
theorem s_142_806 {K : gC} : gOk K g_Ms mi_142 806 (ga_aload 0 807) := gs_aload_n (by decide +kernel : decode mi_142.2.1 806 = .ok (.aload_n 0, 1)) rfl rfl
theorem s_142_807 {K : gC} : gOk K g_Ms mi_142 807 (ga_iload 3 808) := gs_iload_n (by decide +kernel : decode mi_142.2.1 807 = .ok (.iload_n 3, 1)) rfl rfl
theorem s_142_808 {K : gC} : gOk K g_Ms mi_142 808 (ga_push (.int 1) 809) := gs_iconst (by decide +kernel : decode mi_142.2.1 808 = .ok (.iconst 1, 1)) (by decide) rfl
theorem s_142_809 {K : gC} : gOk K g_Ms mi_142 809 (ga_bin (fun x y => x + y) 810) := gs_iadd (by decide +kernel : decode mi_142.2.1 809 = .ok (.iadd, 1)) rfl
theorem s_142_810 {K : gC} : gOk K g_Ms mi_142 810 (ga_iald 811) := gs_iald (by decide +kernel : decode mi_142.2.1 810 = .ok (.iaload, 1)) rfl
theorem s_142_811 {K : gC} : gOk K g_Ms mi_142 811 (ga_aload 0 812) := gs_aload_n (by decide +kernel : decode mi_142.2.1 811 = .ok (.aload_n 0, 1)) rfl rfl
theorem s_142_812 {K : gC} : gOk K g_Ms mi_142 812 (ga_iload 3 813) := gs_iload_n (by decide +kernel : decode mi_142.2.1 812 = .ok (.iload_n 3, 1)) rfl rfl
theorem s_142_813 {K : gC} : gOk K g_Ms mi_142 813 (ga_push (.int 2) 814) := gs_iconst (by decide +kernel : decode mi_142.2.1 813 = .ok (.iconst 2, 1)) (by decide) rfl
theorem s_142_814 {K : gC} : gOk K g_Ms mi_142 814 (ga_bin (fun x y => x + y) 815) := gs_iadd (by decide +kernel : decode mi_142.2.1 814 = .ok (.iadd, 1)) rfl
theorem s_142_815 {K : gC} : gOk K g_Ms mi_142 815 (ga_iald 816) := gs_iald (by decide +kernel : decode mi_142.2.1 815 = .ok (.iaload, 1)) rfl
theorem s_142_816 {K : gC} : gOk K g_Ms mi_142 816 (ga_callV 7 128 2 819) := gs_callV gcls_7 (gce_X7_seen (by decide) (by decide)) gw_938 gw_939 gw_940 (by decide +kernel : decode mi_142.2.1 816 = .ok (.invokevirtual 108, 3)) rfl
theorem s_142_819 {K : gC} : gOk K g_Ms mi_142 819 (ga_cmp (fun x y => decide (x = y)) 893 822) := gs_cmp_eq (by decide +kernel : decode mi_142.2.1 819 = .ok (.if_icmp .eq 74, 3)) (by decide) rfl
theorem s_142_822 {K : gC} : gOk K g_Ms mi_142 822 (ga_push (.int 0) 823) := gs_iconst (by decide +kernel : decode mi_142.2.1 822 = .ok (.iconst 0, 1)) (by decide) rfl
theorem s_142_823 {K : gC} : gOk K g_Ms mi_142 823 (ga_zret) := gs_zret (by decide +kernel : decode mi_142.2.1 823 = .ok (.ireturn, 1)) rfl rfl rfl
theorem s_142_824 {K : gC} : gOk K g_Ms mi_142 824 (ga_aload 1 825) := gs_aload_n (by decide +kernel : decode mi_142.2.1 824 = .ok (.aload_n 1, 1)) rfl rfl
theorem s_142_825 {K : gC} : gOk K g_Ms mi_142 825 (ga_callV 6 79 0 828) := gs_callV gcls_6 (gce_X6_forget (by decide) (by decide)) gw_622 gw_623 gw_624 (by decide +kernel : decode mi_142.2.1 825 = .ok (.invokevirtual 109, 3)) rfl
theorem s_142_828 {K : gC} : gOk K g_Ms mi_142 828 (ga_aload 2 829) := gs_aload_n (by decide +kernel : decode mi_142.2.1 828 = .ok (.aload_n 2, 1)) rfl rfl
theorem s_142_829 {K : gC} : gOk K g_Ms mi_142 829 (ga_callV 7 129 0 832) := gs_callV gcls_7 (gce_X7_forget (by decide) (by decide)) gw_942 gw_943 gw_944 (by decide +kernel : decode mi_142.2.1 829 = .ok (.invokevirtual 112, 3)) rfl
theorem s_142_832 {K : gC} : gOk K g_Ms mi_142 832 (ga_cmp (fun x y => decide (x = y)) 893 835) := gs_cmp_eq (by decide +kernel : decode mi_142.2.1 832 = .ok (.if_icmp .eq 61, 3)) (by decide) rfl
theorem s_142_835 {K : gC} : gOk K g_Ms mi_142 835 (ga_push (.int 0) 836) := gs_iconst (by decide +kernel : decode mi_142.2.1 835 = .ok (.iconst 0, 1)) (by decide) rfl
theorem s_142_836 {K : gC} : gOk K g_Ms mi_142 836 (ga_zret) := gs_zret (by decide +kernel : decode mi_142.2.1 836 = .ok (.ireturn, 1)) rfl rfl rfl
theorem s_142_837 {K : gC} : gOk K g_Ms mi_142 837 (ga_aload 1 838) := gs_aload_n (by decide +kernel : decode mi_142.2.1 837 = .ok (.aload_n 1, 1)) rfl rfl
theorem s_142_838 {K : gC} : gOk K g_Ms mi_142 838 (ga_aload 0 839) := gs_aload_n (by decide +kernel : decode mi_142.2.1 838 = .ok (.aload_n 0, 1)) rfl rfl
theorem s_142_839 {K : gC} : gOk K g_Ms mi_142 839 (ga_iload 3 840) := gs_iload_n (by decide +kernel : decode mi_142.2.1 839 = .ok (.iload_n 3, 1)) rfl rfl
theorem s_142_840 {K : gC} : gOk K g_Ms mi_142 840 (ga_push (.int 1) 841) := gs_iconst (by decide +kernel : decode mi_142.2.1 840 = .ok (.iconst 1, 1)) (by decide) rfl
theorem s_142_841 {K : gC} : gOk K g_Ms mi_142 841 (ga_bin (fun x y => x + y) 842) := gs_iadd (by decide +kernel : decode mi_142.2.1 841 = .ok (.iadd, 1)) rfl
theorem s_142_842 {K : gC} : gOk K g_Ms mi_142 842 (ga_iald 843) := gs_iald (by decide +kernel : decode mi_142.2.1 842 = .ok (.iaload, 1)) rfl
theorem s_142_843 {K : gC} : gOk K g_Ms mi_142 843 (ga_aload 0 844) := gs_aload_n (by decide +kernel : decode mi_142.2.1 843 = .ok (.aload_n 0, 1)) rfl rfl
theorem s_142_844 {K : gC} : gOk K g_Ms mi_142 844 (ga_iload 3 845) := gs_iload_n (by decide +kernel : decode mi_142.2.1 844 = .ok (.iload_n 3, 1)) rfl rfl
theorem s_142_845 {K : gC} : gOk K g_Ms mi_142 845 (ga_push (.int 2) 846) := gs_iconst (by decide +kernel : decode mi_142.2.1 845 = .ok (.iconst 2, 1)) (by decide) rfl
theorem s_142_846 {K : gC} : gOk K g_Ms mi_142 846 (ga_bin (fun x y => x + y) 847) := gs_iadd (by decide +kernel : decode mi_142.2.1 846 = .ok (.iadd, 1)) rfl
theorem s_142_847 {K : gC} : gOk K g_Ms mi_142 847 (ga_iald 848) := gs_iald (by decide +kernel : decode mi_142.2.1 847 = .ok (.iaload, 1)) rfl
theorem s_142_848 {K : gC} : gOk K g_Ms mi_142 848 (ga_callV 6 80 2 851) := gs_callV gcls_6 (gce_X6_asleep (by decide) (by decide)) gw_626 gw_627 gw_628 (by decide +kernel : decode mi_142.2.1 848 = .ok (.invokevirtual 113, 3)) rfl
theorem s_142_851 {K : gC} : gOk K g_Ms mi_142 851 (ga_aload 2 852) := gs_aload_n (by decide +kernel : decode mi_142.2.1 851 = .ok (.aload_n 2, 1)) rfl rfl
theorem s_142_852 {K : gC} : gOk K g_Ms mi_142 852 (ga_aload 0 853) := gs_aload_n (by decide +kernel : decode mi_142.2.1 852 = .ok (.aload_n 0, 1)) rfl rfl
theorem s_142_853 {K : gC} : gOk K g_Ms mi_142 853 (ga_iload 3 854) := gs_iload_n (by decide +kernel : decode mi_142.2.1 853 = .ok (.iload_n 3, 1)) rfl rfl
theorem s_142_854 {K : gC} : gOk K g_Ms mi_142 854 (ga_push (.int 1) 855) := gs_iconst (by decide +kernel : decode mi_142.2.1 854 = .ok (.iconst 1, 1)) (by decide) rfl
theorem s_142_855 {K : gC} : gOk K g_Ms mi_142 855 (ga_bin (fun x y => x + y) 856) := gs_iadd (by decide +kernel : decode mi_142.2.1 855 = .ok (.iadd, 1)) rfl
theorem s_142_856 {K : gC} : gOk K g_Ms mi_142 856 (ga_iald 857) := gs_iald (by decide +kernel : decode mi_142.2.1 856 = .ok (.iaload, 1)) rfl
theorem s_142_857 {K : gC} : gOk K g_Ms mi_142 857 (ga_aload 0 858) := gs_aload_n (by decide +kernel : decode mi_142.2.1 857 = .ok (.aload_n 0, 1)) rfl rfl
theorem s_142_858 {K : gC} : gOk K g_Ms mi_142 858 (ga_iload 3 859) := gs_iload_n (by decide +kernel : decode mi_142.2.1 858 = .ok (.iload_n 3, 1)) rfl rfl
theorem s_142_859 {K : gC} : gOk K g_Ms mi_142 859 (ga_push (.int 2) 860) := gs_iconst (by decide +kernel : decode mi_142.2.1 859 = .ok (.iconst 2, 1)) (by decide) rfl
theorem s_142_860 {K : gC} : gOk K g_Ms mi_142 860 (ga_bin (fun x y => x + y) 861) := gs_iadd (by decide +kernel : decode mi_142.2.1 860 = .ok (.iadd, 1)) rfl
theorem s_142_861 {K : gC} : gOk K g_Ms mi_142 861 (ga_iald 862) := gs_iald (by decide +kernel : decode mi_142.2.1 861 = .ok (.iaload, 1)) rfl
theorem s_142_862 {K : gC} : gOk K g_Ms mi_142 862 (ga_callV 7 131 2 865) := gs_callV gcls_7 (gce_X7_asleep (by decide) (by decide)) gw_946 gw_947 gw_948 (by decide +kernel : decode mi_142.2.1 862 = .ok (.invokevirtual 116, 3)) rfl
theorem s_142_865 {K : gC} : gOk K g_Ms mi_142 865 (ga_cmp (fun x y => decide (x = y)) 893 868) := gs_cmp_eq (by decide +kernel : decode mi_142.2.1 865 = .ok (.if_icmp .eq 28, 3)) (by decide) rfl
theorem s_142_868 {K : gC} : gOk K g_Ms mi_142 868 (ga_push (.int 0) 869) := gs_iconst (by decide +kernel : decode mi_142.2.1 868 = .ok (.iconst 0, 1)) (by decide) rfl
theorem s_142_869 {K : gC} : gOk K g_Ms mi_142 869 (ga_zret) := gs_zret (by decide +kernel : decode mi_142.2.1 869 = .ok (.ireturn, 1)) rfl rfl rfl
theorem s_142_870 {K : gC} : gOk K g_Ms mi_142 870 (ga_aload 1 871) := gs_aload_n (by decide +kernel : decode mi_142.2.1 870 = .ok (.aload_n 1, 1)) rfl rfl
theorem s_142_871 {K : gC} : gOk K g_Ms mi_142 871 (ga_aload 0 872) := gs_aload_n (by decide +kernel : decode mi_142.2.1 871 = .ok (.aload_n 0, 1)) rfl rfl
theorem s_142_872 {K : gC} : gOk K g_Ms mi_142 872 (ga_iload 3 873) := gs_iload_n (by decide +kernel : decode mi_142.2.1 872 = .ok (.iload_n 3, 1)) rfl rfl
theorem s_142_873 {K : gC} : gOk K g_Ms mi_142 873 (ga_push (.int 1) 874) := gs_iconst (by decide +kernel : decode mi_142.2.1 873 = .ok (.iconst 1, 1)) (by decide) rfl
theorem s_142_874 {K : gC} : gOk K g_Ms mi_142 874 (ga_bin (fun x y => x + y) 875) := gs_iadd (by decide +kernel : decode mi_142.2.1 874 = .ok (.iadd, 1)) rfl
theorem s_142_875 {K : gC} : gOk K g_Ms mi_142 875 (ga_iald 876) := gs_iald (by decide +kernel : decode mi_142.2.1 875 = .ok (.iaload, 1)) rfl
theorem s_142_876 {K : gC} : gOk K g_Ms mi_142 876 (ga_callV 6 81 1 879) := gs_callV gcls_6 (gce_X6_count (by decide) (by decide)) gw_634 gw_635 gw_636 (by decide +kernel : decode mi_142.2.1 876 = .ok (.invokevirtual 117, 3)) rfl
theorem s_142_879 {K : gC} : gOk K g_Ms mi_142 879 (ga_aload 2 880) := gs_aload_n (by decide +kernel : decode mi_142.2.1 879 = .ok (.aload_n 2, 1)) rfl rfl
theorem s_142_880 {K : gC} : gOk K g_Ms mi_142 880 (ga_aload 0 881) := gs_aload_n (by decide +kernel : decode mi_142.2.1 880 = .ok (.aload_n 0, 1)) rfl rfl
theorem s_142_881 {K : gC} : gOk K g_Ms mi_142 881 (ga_iload 3 882) := gs_iload_n (by decide +kernel : decode mi_142.2.1 881 = .ok (.iload_n 3, 1)) rfl rfl
theorem s_142_882 {K : gC} : gOk K g_Ms mi_142 882 (ga_push (.int 1) 883) := gs_iconst (by decide +kernel : decode mi_142.2.1 882 = .ok (.iconst 1, 1)) (by decide) rfl
theorem s_142_883 {K : gC} : gOk K g_Ms mi_142 883 (ga_bin (fun x y => x + y) 884) := gs_iadd (by decide +kernel : decode mi_142.2.1 883 = .ok (.iadd, 1)) rfl
theorem s_142_884 {K : gC} : gOk K g_Ms mi_142 884 (ga_iald 885) := gs_iald (by decide +kernel : decode mi_142.2.1 884 = .ok (.iaload, 1)) rfl
theorem s_142_885 {K : gC} : gOk K g_Ms mi_142 885 (ga_callV 7 132 1 888) := gs_callV gcls_7 (gce_X7_count (by decide) (by decide)) gw_954 gw_955 gw_956 (by decide +kernel : decode mi_142.2.1 885 = .ok (.invokevirtual 120, 3)) rfl
theorem s_142_888 {K : gC} : gOk K g_Ms mi_142 888 (ga_cmp (fun x y => decide (x = y)) 893 891) := gs_cmp_eq (by decide +kernel : decode mi_142.2.1 888 = .ok (.if_icmp .eq 5, 3)) (by decide) rfl
theorem s_142_891 {K : gC} : gOk K g_Ms mi_142 891 (ga_push (.int 0) 892) := gs_iconst (by decide +kernel : decode mi_142.2.1 891 = .ok (.iconst 0, 1)) (by decide) rfl
theorem s_142_892 {K : gC} : gOk K g_Ms mi_142 892 (ga_zret) := gs_zret (by decide +kernel : decode mi_142.2.1 892 = .ok (.ireturn, 1)) rfl rfl rfl
theorem s_142_893 {K : gC} : gOk K g_Ms mi_142 893 (ga_iinc 3 5 896) := gs_iinc (by decide +kernel : decode mi_142.2.1 893 = .ok (.iinc 3 5, 3)) (by decide) rfl
theorem s_142_896 {K : gC} : gOk K g_Ms mi_142 896 (ga_goto 18) := gs_goto (by decide +kernel : decode mi_142.2.1 896 = .ok (.goto (-878), 3)) (by decide)
theorem s_142_899 {K : gC} : gOk K g_Ms mi_142 899 (ga_push (.int 1) 900) := gs_iconst (by decide +kernel : decode mi_142.2.1 899 = .ok (.iconst 1, 1)) (by decide) rfl
theorem s_142_900 {K : gC} : gOk K g_Ms mi_142 900 (ga_zret) := gs_zret (by decide +kernel : decode mi_142.2.1 900 = .ok (.ireturn, 1)) rfl rfl rfl
set_option maxRecDepth 1000000 in
theorem ok_142 {K : gC} : ∀ e ∈ t_142, gOk K g_Ms mi_142 e.1 e.2 := by
  unfold t_142
  simp only [List.forall_mem_cons, List.not_mem_nil, false_implies, implies_true, and_true]
  exact ⟨s_142_0, s_142_3, s_142_4, s_142_7, s_142_8, s_142_11, s_142_12, s_142_15, s_142_16, s_142_17, s_142_18, s_142_19, s_142_20, s_142_21, s_142_22, s_142_23, s_142_26, s_142_27, s_142_28, s_142_29, s_142_31, s_142_32, s_142_148, s_142_149, s_142_150, s_142_151, s_142_152, s_142_153, s_142_154, s_142_155, s_142_157, s_142_158, s_142_159, s_142_160, s_142_161, s_142_162, s_142_163, s_142_164, s_142_167, s_142_168, s_142_169, s_142_170, s_142_171, s_142_172, s_142_173, s_142_174, s_142_177, s_142_178, s_142_179, s_142_180, s_142_181, s_142_182, s_142_183, s_142_184, s_142_186, s_142_187, s_142_188, s_142_189, s_142_190, s_142_191, s_142_192, s_142_193, s_142_196, s_142_197, s_142_198, s_142_199, s_142_200, s_142_201, s_142_202, s_142_203, s_142_206, s_142_209, s_142_210, s_142_211, s_142_212, s_142_215, s_142_216, s_142_219, s_142_222, s_142_223, s_142_224, s_142_225, s_142_228, s_142_229, s_142_232, s_142_235, s_142_236, s_142_237, s_142_238, s_142_241, s_142_242, s_142_245, s_142_248, s_142_249, s_142_250, s_142_251, s_142_252, s_142_253, s_142_254, s_142_255, s_142_256, s_142_257, s_142_258, s_142_259, s_142_260, s_142_261, s_142_264, s_142_265, s_142_266, s_142_267, s_142_268, s_142_269, s_142_270, s_142_271, s_142_272, s_142_273, s_142_274, s_142_275, s_142_278, s_142_281, s_142_282, s_142_283, s_142_284, s_142_285, s_142_286, s_142_287, s_142_288, s_142_289, s_142_290, s_142_291, s_142_292, s_142_293, s_142_294, s_142_297, s_142_298, s_142_299, s_142_300, s_142_301, s_142_302, s_142_303, s_142_304, s_142_305, s_142_306, s_142_307, s_142_308, s_142_311, s_142_314, s_142_315, s_142_316, s_142_317, s_142_318, s_142_319, s_142_320, s_142_321, s_142_322, s_142_323, s_142_324, s_142_325, s_142_326, s_142_327, s_142_330, s_142_331, s_142_332, s_142_333, s_142_334, s_142_335, s_142_336, s_142_337, s_142_338, s_142_339, s_142_340, s_142_341, s_142_344, s_142_347, s_142_348, s_142_349, s_142_350, s_142_351, s_142_352, s_142_353, s_142_354, s_142_355, s_142_358, s_142_359, s_142_360, s_142_361, s_142_362, s_142_363, s_142_364, s_142_367, s_142_370, s_142_371, s_142_372, s_142_373, s_142_374, s_142_375, s_142_376, s_142_377, s_142_378, s_142_381, s_142_382, s_142_383, s_142_384, s_142_385, s_142_386, s_142_387, s_142_390, s_142_393, s_142_394, s_142_395, s_142_396, s_142_397, s_142_398, s_142_399, s_142_400, s_142_401, s_142_404, s_142_405, s_142_406, s_142_407, s_142_408, s_142_409, s_142_410, s_142_413, s_142_416, s_142_417, s_142_418, s_142_419, s_142_420, s_142_421, s_142_422, s_142_423, s_142_424, s_142_427, s_142_428, s_142_429, s_142_430, s_142_431, s_142_432, s_142_433, s_142_436, s_142_439, s_142_440, s_142_441, s_142_442, s_142_443, s_142_444, s_142_445, s_142_446, s_142_447, s_142_450, s_142_451, s_142_452, s_142_453, s_142_454, s_142_455, s_142_456, s_142_459, s_142_462, s_142_463, s_142_464, s_142_465, s_142_466, s_142_467, s_142_468, s_142_469, s_142_470, s_142_471, s_142_472, s_142_473, s_142_474, s_142_475, s_142_478, s_142_479, s_142_480, s_142_481, s_142_482, s_142_483, s_142_484, s_142_485, s_142_486, s_142_487, s_142_488, s_142_489, s_142_492, s_142_495, s_142_496, s_142_497, s_142_498, s_142_499, s_142_500, s_142_501, s_142_502, s_142_503, s_142_506, s_142_507, s_142_508, s_142_509, s_142_510, s_142_511, s_142_512, s_142_515, s_142_518, s_142_519, s_142_520, s_142_521, s_142_522, s_142_523, s_142_524, s_142_525, s_142_526, s_142_529, s_142_530, s_142_531, s_142_532, s_142_533, s_142_534, s_142_535, s_142_538, s_142_541, s_142_542, s_142_543, s_142_544, s_142_545, s_142_546, s_142_547, s_142_548, s_142_549, s_142_552, s_142_553, s_142_554, s_142_555, s_142_556, s_142_557, s_142_558, s_142_561, s_142_564, s_142_565, s_142_566, s_142_567, s_142_568, s_142_569, s_142_570, s_142_571, s_142_572, s_142_573, s_142_574, s_142_575, s_142_576, s_142_577, s_142_578, s_142_579, s_142_580, s_142_581, s_142_582, s_142_585, s_142_586, s_142_587, s_142_588, s_142_589, s_142_590, s_142_591, s_142_592, s_142_593, s_142_594, s_142_595, s_142_596, s_142_597, s_142_598, s_142_599, s_142_600, s_142_601, s_142_604, s_142_607, s_142_608, s_142_609, s_142_610, s_142_611, s_142_612, s_142_613, s_142_614, s_142_615, s_142_616, s_142_617, s_142_618, s_142_619, s_142_620, s_142_621, s_142_622, s_142_623, s_142_624, s_142_625, s_142_628, s_142_629, s_142_630, s_142_631, s_142_632, s_142_633, s_142_634, s_142_635, s_142_636, s_142_637, s_142_638, s_142_639, s_142_640, s_142_641, s_142_642, s_142_643, s_142_644, s_142_647, s_142_650, s_142_651, s_142_652, s_142_653, s_142_654, s_142_655, s_142_656, s_142_657, s_142_658, s_142_659, s_142_660, s_142_661, s_142_662, s_142_663, s_142_664, s_142_665, s_142_666, s_142_667, s_142_668, s_142_669, s_142_670, s_142_671, s_142_672, s_142_673, s_142_676, s_142_677, s_142_678, s_142_679, s_142_680, s_142_681, s_142_682, s_142_683, s_142_684, s_142_685, s_142_686, s_142_687, s_142_688, s_142_689, s_142_690, s_142_691, s_142_692, s_142_693, s_142_694, s_142_695, s_142_696, s_142_697, s_142_700, s_142_703, s_142_704, s_142_705, s_142_706, s_142_707, s_142_708, s_142_709, s_142_710, s_142_711, s_142_712, s_142_713, s_142_714, s_142_715, s_142_716, s_142_719, s_142_720, s_142_721, s_142_722, s_142_723, s_142_724, s_142_725, s_142_726, s_142_727, s_142_728, s_142_729, s_142_730, s_142_733, s_142_736, s_142_737, s_142_738, s_142_739, s_142_740, s_142_741, s_142_742, s_142_743, s_142_744, s_142_745, s_142_746, s_142_747, s_142_748, s_142_749, s_142_750, s_142_751, s_142_752, s_142_753, s_142_754, s_142_755, s_142_756, s_142_757, s_142_758, s_142_759, s_142_762, s_142_763, s_142_764, s_142_765, s_142_766, s_142_767, s_142_768, s_142_769, s_142_770, s_142_771, s_142_772, s_142_773, s_142_774, s_142_775, s_142_776, s_142_777, s_142_778, s_142_779, s_142_780, s_142_781, s_142_782, s_142_783, s_142_786, s_142_789, s_142_790, s_142_791, s_142_792, s_142_793, s_142_794, s_142_795, s_142_796, s_142_797, s_142_798, s_142_799, s_142_800, s_142_801, s_142_802, s_142_805, s_142_806, s_142_807, s_142_808, s_142_809, s_142_810, s_142_811, s_142_812, s_142_813, s_142_814, s_142_815, s_142_816, s_142_819, s_142_822, s_142_823, s_142_824, s_142_825, s_142_828, s_142_829, s_142_832, s_142_835, s_142_836, s_142_837, s_142_838, s_142_839, s_142_840, s_142_841, s_142_842, s_142_843, s_142_844, s_142_845, s_142_846, s_142_847, s_142_848, s_142_851, s_142_852, s_142_853, s_142_854, s_142_855, s_142_856, s_142_857, s_142_858, s_142_859, s_142_860, s_142_861, s_142_862, s_142_865, s_142_868, s_142_869, s_142_870, s_142_871, s_142_872, s_142_873, s_142_874, s_142_875, s_142_876, s_142_879, s_142_880, s_142_881, s_142_882, s_142_883, s_142_884, s_142_885, s_142_888, s_142_891, s_142_892, s_142_893, s_142_896, s_142_899, s_142_900⟩
