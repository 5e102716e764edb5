theorem s_144_0 {K : gC} : gOk K g_Ms mi_144 0 (ga_new 6 8 3) := gs_new gcls_6 gw_53 (by decide +kernel : decode mi_144.2.1 0 = .ok (.new 7, 3)) rfl
theorem s_144_3 {K : gC} : gOk K g_Ms mi_144 3 (ga_dup 4) := gs_dup (by decide +kernel : decode mi_144.2.1 3 = .ok (.dup, 1)) rfl
theorem s_144_4 {K : gC} : gOk K g_Ms mi_144 4 (ga_callI 52 0 7) := gs_callI (gce_X6_init (by decide) (by decide)) gw_55 gw_56 rfl rfl (by decide +kernel : decode mi_144.2.1 4 = .ok (.invokespecial 9, 3)) rfl
theorem s_144_7 {K : gC} : gOk K g_Ms mi_144 7 (ga_astore 1 8) := gs_astore_n (by decide +kernel : decode mi_144.2.1 7 = .ok (.astore_n 1, 1)) rfl rfl
theorem s_144_8 {K : gC} : gOk K g_Ms mi_144 8 (ga_new 7 30 11) := gs_new gcls_7 gw_646 (by decide +kernel : decode mi_144.2.1 8 = .ok (.new 10, 3)) rfl
theorem s_144_11 {K : gC} : gOk K g_Ms mi_144 11 (ga_dup 12) := gs_dup (by decide +kernel : decode mi_144.2.1 11 = .ok (.dup, 1)) rfl
theorem s_144_12 {K : gC} : gOk K g_Ms mi_144 12 (ga_callI 82 0 15) := gs_callI (gce_X7_init (by decide) (by decide)) gw_648 gw_649 rfl rfl (by decide +kernel : decode mi_144.2.1 12 = .ok (.invokespecial 12, 3)) rfl
theorem s_144_15 {K : gC} : gOk K g_Ms mi_144 15 (ga_astore 2 16) := gs_astore_n (by decide +kernel : decode mi_144.2.1 15 = .ok (.astore_n 2, 1)) rfl rfl
theorem s_144_16 {K : gC} : gOk K g_Ms mi_144 16 (ga_push (.int 0) 17) := gs_iconst (by decide +kernel : decode mi_144.2.1 16 = .ok (.iconst 0, 1)) (by decide) rfl
theorem s_144_17 {K : gC} : gOk K g_Ms mi_144 17 (ga_istore 3 18) := gs_istore_n (by decide +kernel : decode mi_144.2.1 17 = .ok (.istore_n 3, 1)) rfl rfl
theorem s_144_18 {K : gC} : gOk K g_Ms mi_144 18 (ga_iload 3 19) := gs_iload_n (by decide +kernel : decode mi_144.2.1 18 = .ok (.iload_n 3, 1)) rfl rfl
theorem s_144_19 {K : gC} : gOk K g_Ms mi_144 19 (ga_aload 0 20) := gs_aload_n (by decide +kernel : decode mi_144.2.1 19 = .ok (.aload_n 0, 1)) rfl rfl
theorem s_144_20 {K : gC} : gOk K g_Ms mi_144 20 (ga_alen 21) := gs_alen (by decide +kernel : decode mi_144.2.1 20 = .ok (.arraylength, 1)) rfl
theorem s_144_21 {K : gC} : gOk K g_Ms mi_144 21 (ga_push (.int 5) 22) := gs_iconst (by decide +kernel : decode mi_144.2.1 21 = .ok (.iconst 5, 1)) (by decide) rfl
theorem s_144_22 {K : gC} : gOk K g_Ms mi_144 22 (ga_bin (fun x y => x - y) 23) := gs_isub (by decide +kernel : decode mi_144.2.1 22 = .ok (.isub, 1)) rfl
theorem s_144_23 {K : gC} : gOk K g_Ms mi_144 23 (ga_cmp (fun x y => decide (y < x)) 899 26) := gs_cmp_gt (by decide +kernel : decode mi_144.2.1 23 = .ok (.if_icmp .gt 876, 3)) (by decide) rfl
theorem s_144_26 {K : gC} : gOk K g_Ms mi_144 26 (ga_aload 0 27) := gs_aload_n (by decide +kernel : decode mi_144.2.1 26 = .ok (.aload_n 0, 1)) rfl rfl
theorem s_144_27 {K : gC} : gOk K g_Ms mi_144 27 (ga_iload 3 28) := gs_iload_n (by decide +kernel : decode mi_144.2.1 27 = .ok (.iload_n 3, 1)) rfl rfl
theorem s_144_28 {K : gC} : gOk K g_Ms mi_144 28 (ga_iald 29) := gs_iald (by decide +kernel : decode mi_144.2.1 28 = .ok (.iaload, 1)) rfl
theorem s_144_29 {K : gC} : gOk K g_Ms mi_144 29 (ga_push (.int 31) 31) := gs_bipush (by decide +kernel : decode mi_144.2.1 29 = .ok (.bipush 31, 2)) (by decide) rfl
theorem s_144_31 {K : gC} : gOk K g_Ms mi_144 31 (ga_bin (fun x y => x &&& y) 32) := gs_iand (by decide +kernel : decode mi_144.2.1 31 = .ok (.iand, 1)) rfl
theorem s_144_32 {K : gC} : gOk K g_Ms mi_144 32 (ga_switch 0 [148, 211, 224, 237, 250, 283, 316, 349, 372, 395, 418, 441, 464, 497, 520, 543, 566, 609, 652, 705, 738, 791, 824, 837, 870] 893) := gs_switch (by decide +kernel : decode mi_144.2.1 32 = .ok (.tableswitch 861 0 24 #[116, 179, 192, 205, 218, 251, 284, 317, 340, 363, 386, 409, 432, 465, 488, 511, 534, 577, 620, 673, 706, 759, 792, 805, 838], 116)) (by decide) (by decide) (by decide)
theorem s_144_148 {K : gC} : gOk K g_Ms mi_144 148 (ga_aload 1 149) := gs_aload_n (by decide +kernel : decode mi_144.2.1 148 = .ok (.aload_n 1, 1)) rfl rfl
theorem s_144_149 {K : gC} : gOk K g_Ms mi_144 149 (ga_aload 0 150) := gs_aload_n (by decide +kernel : decode mi_144.2.1 149 = .ok (.aload_n 0, 1)) rfl rfl
theorem s_144_150 {K : gC} : gOk K g_Ms mi_144 150 (ga_iload 3 151) := gs_iload_n (by decide +kernel : decode mi_144.2.1 150 = .ok (.iload_n 3, 1)) rfl rfl
theorem s_144_151 {K : gC} : gOk K g_Ms mi_144 151 (ga_push (.int 1) 152) := gs_iconst (by decide +kernel : decode mi_144.2.1 151 = .ok (.iconst 1, 1)) (by decide) rfl
theorem s_144_152 {K : gC} : gOk K g_Ms mi_144 152 (ga_bin (fun x y => x + y) 153) := gs_iadd (by decide +kernel : decode mi_144.2.1 152 = .ok (.iadd, 1)) rfl
theorem s_144_153 {K : gC} : gOk K g_Ms mi_144 153 (ga_iald 154) := gs_iald (by decide +kernel : decode mi_144.2.1 153 = .ok (.iaload, 1)) rfl
theorem s_144_154 {K : gC} : gOk K g_Ms mi_144 154 (ga_i2l 155) := gs_i2l (by decide +kernel : decode mi_144.2.1 154 = .ok (.i2l, 1)) rfl
theorem s_144_155 {K : gC} : gOk K g_Ms mi_144 155 (ga_push (.int 32) 157) := gs_bipush (by decide +kernel : decode mi_144.2.1 155 = .ok (.bipush 32, 2)) (by decide) rfl
theorem s_144_157 {K : gC} : gOk K g_Ms mi_144 157 (ga_lsh (fun x y => x <<< (y.toInt64 &&& 63)) 158) := gs_lshl (by decide +kernel : decode mi_144.2.1 157 = .ok (.lshl, 1)) rfl
theorem s_144_158 {K : gC} : gOk K g_Ms mi_144 158 (ga_aload 0 159) := gs_aload_n (by decide +kernel : decode mi_144.2.1 158 = .ok (.aload_n 0, 1)) rfl rfl
theorem s_144_159 {K : gC} : gOk K g_Ms mi_144 159 (ga_iload 3 160) := gs_iload_n (by decide +kernel : decode mi_144.2.1 159 = .ok (.iload_n 3, 1)) rfl rfl
theorem s_144_160 {K : gC} : gOk K g_Ms mi_144 160 (ga_push (.int 2) 161) := gs_iconst (by decide +kernel : decode mi_144.2.1 160 = .ok (.iconst 2, 1)) (by decide) rfl
theorem s_144_161 {K : gC} : gOk K g_Ms mi_144 161 (ga_bin (fun x y => x + y) 162) := gs_iadd (by decide +kernel : decode mi_144.2.1 161 = .ok (.iadd, 1)) rfl
theorem s_144_162 {K : gC} : gOk K g_Ms mi_144 162 (ga_iald 163) := gs_iald (by decide +kernel : decode mi_144.2.1 162 = .ok (.iaload, 1)) rfl
theorem s_144_163 {K : gC} : gOk K g_Ms mi_144 163 (ga_i2l 164) := gs_i2l (by decide +kernel : decode mi_144.2.1 163 = .ok (.i2l, 1)) rfl
theorem s_144_164 {K : gC} : gOk K g_Ms mi_144 164 (ga_push (.long 4294967295) 167) := gs_ldc2 (by decide +kernel : decode mi_144.2.1 164 = .ok (.ldc2_w 13, 3)) gw_958 rfl
theorem s_144_167 {K : gC} : gOk K g_Ms mi_144 167 (ga_lbin (fun x y => x &&& y) 168) := gs_land (by decide +kernel : decode mi_144.2.1 167 = .ok (.land, 1)) rfl
theorem s_144_168 {K : gC} : gOk K g_Ms mi_144 168 (ga_lbin (fun x y => x ||| y) 169) := gs_lor (by decide +kernel : decode mi_144.2.1 168 = .ok (.lor, 1)) rfl
theorem s_144_169 {K : gC} : gOk K g_Ms mi_144 169 (ga_aload 0 170) := gs_aload_n (by decide +kernel : decode mi_144.2.1 169 = .ok (.aload_n 0, 1)) rfl rfl
theorem s_144_170 {K : gC} : gOk K g_Ms mi_144 170 (ga_iload 3 171) := gs_iload_n (by decide +kernel : decode mi_144.2.1 170 = .ok (.iload_n 3, 1)) rfl rfl
theorem s_144_171 {K : gC} : gOk K g_Ms mi_144 171 (ga_push (.int 3) 172) := gs_iconst (by decide +kernel : decode mi_144.2.1 171 = .ok (.iconst 3, 1)) (by decide) rfl
theorem s_144_172 {K : gC} : gOk K g_Ms mi_144 172 (ga_bin (fun x y => x + y) 173) := gs_iadd (by decide +kernel : decode mi_144.2.1 172 = .ok (.iadd, 1)) rfl
theorem s_144_173 {K : gC} : gOk K g_Ms mi_144 173 (ga_iald 174) := gs_iald (by decide +kernel : decode mi_144.2.1 173 = .ok (.iaload, 1)) rfl
theorem s_144_174 {K : gC} : gOk K g_Ms mi_144 174 (ga_callV 6 53 2 177) := gs_callV gcls_6 (gce_X6_write (by decide) (by decide)) gw_267 gw_268 gw_269 (by decide +kernel : decode mi_144.2.1 174 = .ok (.invokevirtual 15, 3)) rfl
theorem s_144_177 {K : gC} : gOk K g_Ms mi_144 177 (ga_aload 2 178) := gs_aload_n (by decide +kernel : decode mi_144.2.1 177 = .ok (.aload_n 2, 1)) rfl rfl
theorem s_144_178 {K : gC} : gOk K g_Ms mi_144 178 (ga_aload 0 179) := gs_aload_n (by decide +kernel : decode mi_144.2.1 178 = .ok (.aload_n 0, 1)) rfl rfl
theorem s_144_179 {K : gC} : gOk K g_Ms mi_144 179 (ga_iload 3 180) := gs_iload_n (by decide +kernel : decode mi_144.2.1 179 = .ok (.iload_n 3, 1)) rfl rfl
theorem s_144_180 {K : gC} : gOk K g_Ms mi_144 180 (ga_push (.int 1) 181) := gs_iconst (by decide +kernel : decode mi_144.2.1 180 = .ok (.iconst 1, 1)) (by decide) rfl
theorem s_144_181 {K : gC} : gOk K g_Ms mi_144 181 (ga_bin (fun x y => x + y) 182) := gs_iadd (by decide +kernel : decode mi_144.2.1 181 = .ok (.iadd, 1)) rfl
theorem s_144_182 {K : gC} : gOk K g_Ms mi_144 182 (ga_iald 183) := gs_iald (by decide +kernel : decode mi_144.2.1 182 = .ok (.iaload, 1)) rfl
theorem s_144_183 {K : gC} : gOk K g_Ms mi_144 183 (ga_i2l 184) := gs_i2l (by decide +kernel : decode mi_144.2.1 183 = .ok (.i2l, 1)) rfl
theorem s_144_184 {K : gC} : gOk K g_Ms mi_144 184 (ga_push (.int 32) 186) := gs_bipush (by decide +kernel : decode mi_144.2.1 184 = .ok (.bipush 32, 2)) (by decide) rfl
theorem s_144_186 {K : gC} : gOk K g_Ms mi_144 186 (ga_lsh (fun x y => x <<< (y.toInt64 &&& 63)) 187) := gs_lshl (by decide +kernel : decode mi_144.2.1 186 = .ok (.lshl, 1)) rfl
theorem s_144_187 {K : gC} : gOk K g_Ms mi_144 187 (ga_aload 0 188) := gs_aload_n (by decide +kernel : decode mi_144.2.1 187 = .ok (.aload_n 0, 1)) rfl rfl
theorem s_144_188 {K : gC} : gOk K g_Ms mi_144 188 (ga_iload 3 189) := gs_iload_n (by decide +kernel : decode mi_144.2.1 188 = .ok (.iload_n 3, 1)) rfl rfl
theorem s_144_189 {K : gC} : gOk K g_Ms mi_144 189 (ga_push (.int 2) 190) := gs_iconst (by decide +kernel : decode mi_144.2.1 189 = .ok (.iconst 2, 1)) (by decide) rfl
theorem s_144_190 {K : gC} : gOk K g_Ms mi_144 190 (ga_bin (fun x y => x + y) 191) := gs_iadd (by decide +kernel : decode mi_144.2.1 190 = .ok (.iadd, 1)) rfl
theorem s_144_191 {K : gC} : gOk K g_Ms mi_144 191 (ga_iald 192) := gs_iald (by decide +kernel : decode mi_144.2.1 191 = .ok (.iaload, 1)) rfl
theorem s_144_192 {K : gC} : gOk K g_Ms mi_144 192 (ga_i2l 193) := gs_i2l (by decide +kernel : decode mi_144.2.1 192 = .ok (.i2l, 1)) rfl
theorem s_144_193 {K : gC} : gOk K g_Ms mi_144 193 (ga_push (.long 4294967295) 196) := gs_ldc2 (by decide +kernel : decode mi_144.2.1 193 = .ok (.ldc2_w 13, 3)) gw_958 rfl
theorem s_144_196 {K : gC} : gOk K g_Ms mi_144 196 (ga_lbin (fun x y => x &&& y) 197) := gs_land (by decide +kernel : decode mi_144.2.1 196 = .ok (.land, 1)) rfl
theorem s_144_197 {K : gC} : gOk K g_Ms mi_144 197 (ga_lbin (fun x y => x ||| y) 198) := gs_lor (by decide +kernel : decode mi_144.2.1 197 = .ok (.lor, 1)) rfl
theorem s_144_198 {K : gC} : gOk K g_Ms mi_144 198 (ga_aload 0 199) := gs_aload_n (by decide +kernel : decode mi_144.2.1 198 = .ok (.aload_n 0, 1)) rfl rfl
theorem s_144_199 {K : gC} : gOk K g_Ms mi_144 199 (ga_iload 3 200) := gs_iload_n (by decide +kernel : decode mi_144.2.1 199 = .ok (.iload_n 3, 1)) rfl rfl
theorem s_144_200 {K : gC} : gOk K g_Ms mi_144 200 (ga_push (.int 3) 201) := gs_iconst (by decide +kernel : decode mi_144.2.1 200 = .ok (.iconst 3, 1)) (by decide) rfl
theorem s_144_201 {K : gC} : gOk K g_Ms mi_144 201 (ga_bin (fun x y => x + y) 202) := gs_iadd (by decide +kernel : decode mi_144.2.1 201 = .ok (.iadd, 1)) rfl
theorem s_144_202 {K : gC} : gOk K g_Ms mi_144 202 (ga_iald 203) := gs_iald (by decide +kernel : decode mi_144.2.1 202 = .ok (.iaload, 1)) rfl
theorem s_144_203 {K : gC} : gOk K g_Ms mi_144 203 (ga_callV 7 87 2 206) := gs_callV gcls_7 (gce_X7_write (by decide) (by decide)) gw_747 gw_748 gw_749 (by decide +kernel : decode mi_144.2.1 203 = .ok (.invokevirtual 19, 3)) rfl
theorem s_144_206 {K : gC} : gOk K g_Ms mi_144 206 (ga_cmp (fun x y => decide (x = y)) 893 209) := gs_cmp_eq (by decide +kernel : decode mi_144.2.1 206 = .ok (.if_icmp .eq 687, 3)) (by decide) rfl
theorem s_144_209 {K : gC} : gOk K g_Ms mi_144 209 (ga_push (.int 0) 210) := gs_iconst (by decide +kernel : decode mi_144.2.1 209 = .ok (.iconst 0, 1)) (by decide) rfl
theorem s_144_210 {K : gC} : gOk K g_Ms mi_144 210 (ga_zret) := gs_zret (by decide +kernel : decode mi_144.2.1 210 = .ok (.ireturn, 1)) rfl rfl rfl
theorem s_144_211 {K : gC} : gOk K g_Ms mi_144 211 (ga_aload 1 212) := gs_aload_n (by decide +kernel : decode mi_144.2.1 211 = .ok (.aload_n 1, 1)) rfl rfl
theorem s_144_212 {K : gC} : gOk K g_Ms mi_144 212 (ga_callV 6 54 0 215) := gs_callV gcls_6 (gce_X6_erase (by decide) (by decide)) gw_276 gw_277 gw_278 (by decide +kernel : decode mi_144.2.1 212 = .ok (.invokevirtual 20, 3)) rfl
theorem s_144_215 {K : gC} : gOk K g_Ms mi_144 215 (ga_aload 2 216) := gs_aload_n (by decide +kernel : decode mi_144.2.1 215 = .ok (.aload_n 2, 1)) rfl rfl
theorem s_144_216 {K : gC} : gOk K g_Ms mi_144 216 (ga_callV 7 88 0 219) := gs_callV gcls_7 (gce_X7_erase (by decide) (by decide)) gw_755 gw_756 gw_757 (by decide +kernel : decode mi_144.2.1 216 = .ok (.invokevirtual 24, 3)) rfl
theorem s_144_219 {K : gC} : gOk K g_Ms mi_144 219 (ga_cmp (fun x y => decide (x = y)) 893 222) := gs_cmp_eq (by decide +kernel : decode mi_144.2.1 219 = .ok (.if_icmp .eq 674, 3)) (by decide) rfl
theorem s_144_222 {K : gC} : gOk K g_Ms mi_144 222 (ga_push (.int 0) 223) := gs_iconst (by decide +kernel : decode mi_144.2.1 222 = .ok (.iconst 0, 1)) (by decide) rfl
theorem s_144_223 {K : gC} : gOk K g_Ms mi_144 223 (ga_zret) := gs_zret (by decide +kernel : decode mi_144.2.1 223 = .ok (.ireturn, 1)) rfl rfl rfl
theorem s_144_224 {K : gC} : gOk K g_Ms mi_144 224 (ga_aload 1 225) := gs_aload_n (by decide +kernel : decode mi_144.2.1 224 = .ok (.aload_n 1, 1)) rfl rfl
theorem s_144_225 {K : gC} : gOk K g_Ms mi_144 225 (ga_callV 6 55 0 228) := gs_callV gcls_6 (gce_X6_fault (by decide) (by decide)) gw_280 gw_281 gw_282 (by decide +kernel : decode mi_144.2.1 225 = .ok (.invokevirtual 25, 3)) rfl
theorem s_144_228 {K : gC} : gOk K g_Ms mi_144 228 (ga_aload 2 229) := gs_aload_n (by decide +kernel : decode mi_144.2.1 228 = .ok (.aload_n 2, 1)) rfl rfl
theorem s_144_229 {K : gC} : gOk K g_Ms mi_144 229 (ga_callV 7 96 0 232) := gs_callV gcls_7 (gce_X7_fault (by decide) (by decide)) gw_759 gw_760 gw_761 (by decide +kernel : decode mi_144.2.1 229 = .ok (.invokevirtual 28, 3)) rfl
theorem s_144_232 {K : gC} : gOk K g_Ms mi_144 232 (ga_cmp (fun x y => decide (x = y)) 893 235) := gs_cmp_eq (by decide +kernel : decode mi_144.2.1 232 = .ok (.if_icmp .eq 661, 3)) (by decide) rfl
theorem s_144_235 {K : gC} : gOk K g_Ms mi_144 235 (ga_push (.int 0) 236) := gs_iconst (by decide +kernel : decode mi_144.2.1 235 = .ok (.iconst 0, 1)) (by decide) rfl
theorem s_144_236 {K : gC} : gOk K g_Ms mi_144 236 (ga_zret) := gs_zret (by decide +kernel : decode mi_144.2.1 236 = .ok (.ireturn, 1)) rfl rfl rfl
theorem s_144_237 {K : gC} : gOk K g_Ms mi_144 237 (ga_aload 1 238) := gs_aload_n (by decide +kernel : decode mi_144.2.1 237 = .ok (.aload_n 1, 1)) rfl rfl
theorem s_144_238 {K : gC} : gOk K g_Ms mi_144 238 (ga_callV 6 56 0 241) := gs_callV gcls_6 (gce_X6_cloister (by decide) (by decide)) gw_404 gw_405 gw_406 (by decide +kernel : decode mi_144.2.1 238 = .ok (.invokevirtual 29, 3)) rfl
theorem s_144_241 {K : gC} : gOk K g_Ms mi_144 241 (ga_aload 2 242) := gs_aload_n (by decide +kernel : decode mi_144.2.1 241 = .ok (.aload_n 2, 1)) rfl rfl
theorem s_144_242 {K : gC} : gOk K g_Ms mi_144 242 (ga_callV 7 98 0 245) := gs_callV gcls_7 (gce_X7_cloister (by decide) (by decide)) gw_807 gw_808 gw_809 (by decide +kernel : decode mi_144.2.1 242 = .ok (.invokevirtual 32, 3)) rfl
theorem s_144_245 {K : gC} : gOk K g_Ms mi_144 245 (ga_cmp (fun x y => decide (x = y)) 893 248) := gs_cmp_eq (by decide +kernel : decode mi_144.2.1 245 = .ok (.if_icmp .eq 648, 3)) (by decide) rfl
theorem s_144_248 {K : gC} : gOk K g_Ms mi_144 248 (ga_push (.int 0) 249) := gs_iconst (by decide +kernel : decode mi_144.2.1 248 = .ok (.iconst 0, 1)) (by decide) rfl
theorem s_144_249 {K : gC} : gOk K g_Ms mi_144 249 (ga_zret) := gs_zret (by decide +kernel : decode mi_144.2.1 249 = .ok (.ireturn, 1)) rfl rfl rfl
theorem s_144_250 {K : gC} : gOk K g_Ms mi_144 250 (ga_aload 1 251) := gs_aload_n (by decide +kernel : decode mi_144.2.1 250 = .ok (.aload_n 1, 1)) rfl rfl
theorem s_144_251 {K : gC} : gOk K g_Ms mi_144 251 (ga_aload 0 252) := gs_aload_n (by decide +kernel : decode mi_144.2.1 251 = .ok (.aload_n 0, 1)) rfl rfl
theorem s_144_252 {K : gC} : gOk K g_Ms mi_144 252 (ga_iload 3 253) := gs_iload_n (by decide +kernel : decode mi_144.2.1 252 = .ok (.iload_n 3, 1)) rfl rfl
theorem s_144_253 {K : gC} : gOk K g_Ms mi_144 253 (ga_push (.int 1) 254) := gs_iconst (by decide +kernel : decode mi_144.2.1 253 = .ok (.iconst 1, 1)) (by decide) rfl
theorem s_144_254 {K : gC} : gOk K g_Ms mi_144 254 (ga_bin (fun x y => x + y) 255) := gs_iadd (by decide +kernel : decode mi_144.2.1 254 = .ok (.iadd, 1)) rfl
theorem s_144_255 {K : gC} : gOk K g_Ms mi_144 255 (ga_iald 256) := gs_iald (by decide +kernel : decode mi_144.2.1 255 = .ok (.iaload, 1)) rfl
theorem s_144_256 {K : gC} : gOk K g_Ms mi_144 256 (ga_aload 0 257) := gs_aload_n (by decide +kernel : decode mi_144.2.1 256 = .ok (.aload_n 0, 1)) rfl rfl
theorem s_144_257 {K : gC} : gOk K g_Ms mi_144 257 (ga_iload 3 258) := gs_iload_n (by decide +kernel : decode mi_144.2.1 257 = .ok (.iload_n 3, 1)) rfl rfl
theorem s_144_258 {K : gC} : gOk K g_Ms mi_144 258 (ga_push (.int 2) 259) := gs_iconst (by decide +kernel : decode mi_144.2.1 258 = .ok (.iconst 2, 1)) (by decide) rfl
theorem s_144_259 {K : gC} : gOk K g_Ms mi_144 259 (ga_bin (fun x y => x + y) 260) := gs_iadd (by decide +kernel : decode mi_144.2.1 259 = .ok (.iadd, 1)) rfl
theorem s_144_260 {K : gC} : gOk K g_Ms mi_144 260 (ga_iald 261) := gs_iald (by decide +kernel : decode mi_144.2.1 260 = .ok (.iaload, 1)) rfl
theorem s_144_261 {K : gC} : gOk K g_Ms mi_144 261 (ga_callV 6 57 2 264) := gs_callV gcls_6 (gce_X6_gong (by decide) (by decide)) gw_412 gw_413 gw_414 (by decide +kernel : decode mi_144.2.1 261 = .ok (.invokevirtual 33, 3)) rfl
theorem s_144_264 {K : gC} : gOk K g_Ms mi_144 264 (ga_aload 2 265) := gs_aload_n (by decide +kernel : decode mi_144.2.1 264 = .ok (.aload_n 2, 1)) rfl rfl
theorem s_144_265 {K : gC} : gOk K g_Ms mi_144 265 (ga_aload 0 266) := gs_aload_n (by decide +kernel : decode mi_144.2.1 265 = .ok (.aload_n 0, 1)) rfl rfl
theorem s_144_266 {K : gC} : gOk K g_Ms mi_144 266 (ga_iload 3 267) := gs_iload_n (by decide +kernel : decode mi_144.2.1 266 = .ok (.iload_n 3, 1)) rfl rfl
theorem s_144_267 {K : gC} : gOk K g_Ms mi_144 267 (ga_push (.int 1) 268) := gs_iconst (by decide +kernel : decode mi_144.2.1 267 = .ok (.iconst 1, 1)) (by decide) rfl
theorem s_144_268 {K : gC} : gOk K g_Ms mi_144 268 (ga_bin (fun x y => x + y) 269) := gs_iadd (by decide +kernel : decode mi_144.2.1 268 = .ok (.iadd, 1)) rfl
theorem s_144_269 {K : gC} : gOk K g_Ms mi_144 269 (ga_iald 270) := gs_iald (by decide +kernel : decode mi_144.2.1 269 = .ok (.iaload, 1)) rfl
theorem s_144_270 {K : gC} : gOk K g_Ms mi_144 270 (ga_aload 0 271) := gs_aload_n (by decide +kernel : decode mi_144.2.1 270 = .ok (.aload_n 0, 1)) rfl rfl
theorem s_144_271 {K : gC} : gOk K g_Ms mi_144 271 (ga_iload 3 272) := gs_iload_n (by decide +kernel : decode mi_144.2.1 271 = .ok (.iload_n 3, 1)) rfl rfl
theorem s_144_272 {K : gC} : gOk K g_Ms mi_144 272 (ga_push (.int 2) 273) := gs_iconst (by decide +kernel : decode mi_144.2.1 272 = .ok (.iconst 2, 1)) (by decide) rfl
theorem s_144_273 {K : gC} : gOk K g_Ms mi_144 273 (ga_bin (fun x y => x + y) 274) := gs_iadd (by decide +kernel : decode mi_144.2.1 273 = .ok (.iadd, 1)) rfl
theorem s_144_274 {K : gC} : gOk K g_Ms mi_144 274 (ga_iald 275) := gs_iald (by decide +kernel : decode mi_144.2.1 274 = .ok (.iaload, 1)) rfl
theorem s_144_275 {K : gC} : gOk K g_Ms mi_144 275 (ga_callV 7 101 2 278) := gs_callV gcls_7 (gce_X7_gong (by decide) (by decide)) gw_815 gw_816 gw_817 (by decide +kernel : decode mi_144.2.1 275 = .ok (.invokevirtual 37, 3)) rfl
theorem s_144_278 {K : gC} : gOk K g_Ms mi_144 278 (ga_cmp (fun x y => decide (x = y)) 893 281) := gs_cmp_eq (by decide +kernel : decode mi_144.2.1 278 = .ok (.if_icmp .eq 615, 3)) (by decide) rfl
theorem s_144_281 {K : gC} : gOk K g_Ms mi_144 281 (ga_push (.int 0) 282) := gs_iconst (by decide +kernel : decode mi_144.2.1 281 = .ok (.iconst 0, 1)) (by decide) rfl
theorem s_144_282 {K : gC} : gOk K g_Ms mi_144 282 (ga_zret) := gs_zret (by decide +kernel : decode mi_144.2.1 282 = .ok (.ireturn, 1)) rfl rfl rfl
theorem s_144_283 {K : gC} : gOk K g_Ms mi_144 283 (ga_aload 1 284) := gs_aload_n (by decide +kernel : decode mi_144.2.1 283 = .ok (.aload_n 1, 1)) rfl rfl
theorem s_144_284 {K : gC} : gOk K g_Ms mi_144 284 (ga_aload 0 285) := gs_aload_n (by decide +kernel : decode mi_144.2.1 284 = .ok (.aload_n 0, 1)) rfl rfl
theorem s_144_285 {K : gC} : gOk K g_Ms mi_144 285 (ga_iload 3 286) := gs_iload_n (by decide +kernel : decode mi_144.2.1 285 = .ok (.iload_n 3, 1)) rfl rfl
theorem s_144_286 {K : gC} : gOk K g_Ms mi_144 286 (ga_push (.int 1) 287) := gs_iconst (by decide +kernel : decode mi_144.2.1 286 = .ok (.iconst 1, 1)) (by decide) rfl
theorem s_144_287 {K : gC} : gOk K g_Ms mi_144 287 (ga_bin (fun x y => x + y) 288) := gs_iadd (by decide +kernel : decode mi_144.2.1 287 = .ok (.iadd, 1)) rfl
theorem s_144_288 {K : gC} : gOk K g_Ms mi_144 288 (ga_iald 289) := gs_iald (by decide +kernel : decode mi_144.2.1 288 = .ok (.iaload, 1)) rfl
theorem s_144_289 {K : gC} : gOk K g_Ms mi_144 289 (ga_aload 0 290) := gs_aload_n (by decide +kernel : decode mi_144.2.1 289 = .ok (.aload_n 0, 1)) rfl rfl
theorem s_144_290 {K : gC} : gOk K g_Ms mi_144 290 (ga_iload 3 291) := gs_iload_n (by decide +kernel : decode mi_144.2.1 290 = .ok (.iload_n 3, 1)) rfl rfl
theorem s_144_291 {K : gC} : gOk K g_Ms mi_144 291 (ga_push (.int 2) 292) := gs_iconst (by decide +kernel : decode mi_144.2.1 291 = .ok (.iconst 2, 1)) (by decide) rfl
theorem s_144_292 {K : gC} : gOk K g_Ms mi_144 292 (ga_bin (fun x y => x + y) 293) := gs_iadd (by decide +kernel : decode mi_144.2.1 292 = .ok (.iadd, 1)) rfl
theorem s_144_293 {K : gC} : gOk K g_Ms mi_144 293 (ga_iald 294) := gs_iald (by decide +kernel : decode mi_144.2.1 293 = .ok (.iaload, 1)) rfl
theorem s_144_294 {K : gC} : gOk K g_Ms mi_144 294 (ga_callV 6 58 2 297) := gs_callV gcls_6 (gce_X6_monk (by decide) (by decide)) gw_428 gw_429 gw_430 (by decide +kernel : decode mi_144.2.1 294 = .ok (.invokevirtual 38, 3)) rfl
theorem s_144_297 {K : gC} : gOk K g_Ms mi_144 297 (ga_aload 2 298) := gs_aload_n (by decide +kernel : decode mi_144.2.1 297 = .ok (.aload_n 2, 1)) rfl rfl
theorem s_144_298 {K : gC} : gOk K g_Ms mi_144 298 (ga_aload 0 299) := gs_aload_n (by decide +kernel : decode mi_144.2.1 298 = .ok (.aload_n 0, 1)) rfl rfl
theorem s_144_299 {K : gC} : gOk K g_Ms mi_144 299 (ga_iload 3 300) := gs_iload_n (by decide +kernel : decode mi_144.2.1 299 = .ok (.iload_n 3, 1)) rfl rfl
theorem s_144_300 {K : gC} : gOk K g_Ms mi_144 300 (ga_push (.int 1) 301) := gs_iconst (by decide +kernel : decode mi_144.2.1 300 = .ok (.iconst 1, 1)) (by decide) rfl
theorem s_144_301 {K : gC} : gOk K g_Ms mi_144 301 (ga_bin (fun x y => x + y) 302) := gs_iadd (by decide +kernel : decode mi_144.2.1 301 = .ok (.iadd, 1)) rfl
theorem s_144_302 {K : gC} : gOk K g_Ms mi_144 302 (ga_iald 303) := gs_iald (by decide +kernel : decode mi_144.2.1 302 = .ok (.iaload, 1)) rfl
theorem s_144_303 {K : gC} : gOk K g_Ms mi_144 303 (ga_aload 0 304) := gs_aload_n (by decide +kernel : decode mi_144.2.1 303 = .ok (.aload_n 0, 1)) rfl rfl
theorem s_144_304 {K : gC} : gOk K g_Ms mi_144 304 (ga_iload 3 305) := gs_iload_n (by decide +kernel : decode mi_144.2.1 304 = .ok (.iload_n 3, 1)) rfl rfl
theorem s_144_305 {K : gC} : gOk K g_Ms mi_144 305 (ga_push (.int 2) 306) := gs_iconst (by decide +kernel : decode mi_144.2.1 305 = .ok (.iconst 2, 1)) (by decide) rfl
theorem s_144_306 {K : gC} : gOk K g_Ms mi_144 306 (ga_bin (fun x y => x + y) 307) := gs_iadd (by decide +kernel : decode mi_144.2.1 306 = .ok (.iadd, 1)) rfl
theorem s_144_307 {K : gC} : gOk K g_Ms mi_144 307 (ga_iald 308) := gs_iald (by decide +kernel : decode mi_144.2.1 307 = .ok (.iaload, 1)) rfl
theorem s_144_308 {K : gC} : gOk K g_Ms mi_144 308 (ga_callV 7 102 2 311) := gs_callV gcls_7 (gce_X7_monk (by decide) (by decide)) gw_827 gw_828 gw_829 (by decide +kernel : decode mi_144.2.1 308 = .ok (.invokevirtual 41, 3)) rfl
theorem s_144_311 {K : gC} : gOk K g_Ms mi_144 311 (ga_cmp (fun x y => decide (x = y)) 893 314) := gs_cmp_eq (by decide +kernel : decode mi_144.2.1 311 = .ok (.if_icmp .eq 582, 3)) (by decide) rfl
theorem s_144_314 {K : gC} : gOk K g_Ms mi_144 314 (ga_push (.int 0) 315) := gs_iconst (by decide +kernel : decode mi_144.2.1 314 = .ok (.iconst 0, 1)) (by decide) rfl
theorem s_144_315 {K : gC} : gOk K g_Ms mi_144 315 (ga_zret) := gs_zret (by decide +kernel : decode mi_144.2.1 315 = .ok (.ireturn, 1)) rfl rfl rfl
theorem s_144_316 {K : gC} : gOk K g_Ms mi_144 316 (ga_aload 1 317) := gs_aload_n (by decide +kernel : decode mi_144.2.1 316 = .ok (.aload_n 1, 1)) rfl rfl
theorem s_144_317 {K : gC} : gOk K g_Ms mi_144 317 (ga_aload 0 318) := gs_aload_n (by decide +kernel : decode mi_144.2.1 317 = .ok (.aload_n 0, 1)) rfl rfl
theorem s_144_318 {K : gC} : gOk K g_Ms mi_144 318 (ga_iload 3 319) := gs_iload_n (by decide +kernel : decode mi_144.2.1 318 = .ok (.iload_n 3, 1)) rfl rfl
theorem s_144_319 {K : gC} : gOk K g_Ms mi_144 319 (ga_push (.int 1) 320) := gs_iconst (by decide +kernel : decode mi_144.2.1 319 = .ok (.iconst 1, 1)) (by decide) rfl
theorem s_144_320 {K : gC} : gOk K g_Ms mi_144 320 (ga_bin (fun x y => x + y) 321) := gs_iadd (by decide +kernel : decode mi_144.2.1 320 = .ok (.iadd, 1)) rfl
theorem s_144_321 {K : gC} : gOk K g_Ms mi_144 321 (ga_iald 322) := gs_iald (by decide +kernel : decode mi_144.2.1 321 = .ok (.iaload, 1)) rfl
theorem s_144_322 {K : gC} : gOk K g_Ms mi_144 322 (ga_aload 0 323) := gs_aload_n (by decide +kernel : decode mi_144.2.1 322 = .ok (.aload_n 0, 1)) rfl rfl
theorem s_144_323 {K : gC} : gOk K g_Ms mi_144 323 (ga_iload 3 324) := gs_iload_n (by decide +kernel : decode mi_144.2.1 323 = .ok (.iload_n 3, 1)) rfl rfl
theorem s_144_324 {K : gC} : gOk K g_Ms mi_144 324 (ga_push (.int 2) 325) := gs_iconst (by decide +kernel : decode mi_144.2.1 324 = .ok (.iconst 2, 1)) (by decide) rfl
theorem s_144_325 {K : gC} : gOk K g_Ms mi_144 325 (ga_bin (fun x y => x + y) 326) := gs_iadd (by decide +kernel : decode mi_144.2.1 325 = .ok (.iadd, 1)) rfl
theorem s_144_326 {K : gC} : gOk K g_Ms mi_144 326 (ga_iald 327) := gs_iald (by decide +kernel : decode mi_144.2.1 326 = .ok (.iaload, 1)) rfl
theorem s_144_327 {K : gC} : gOk K g_Ms mi_144 327 (ga_callV 6 59 2 330) := gs_callV gcls_6 (gce_X6_as (by decide) (by decide)) gw_436 gw_437 gw_438 (by decide +kernel : decode mi_144.2.1 327 = .ok (.invokevirtual 42, 3)) rfl
theorem s_144_330 {K : gC} : gOk K g_Ms mi_144 330 (ga_aload 2 331) := gs_aload_n (by decide +kernel : decode mi_144.2.1 330 = .ok (.aload_n 2, 1)) rfl rfl
theorem s_144_331 {K : gC} : gOk K g_Ms mi_144 331 (ga_aload 0 332) := gs_aload_n (by decide +kernel : decode mi_144.2.1 331 = .ok (.aload_n 0, 1)) rfl rfl
theorem s_144_332 {K : gC} : gOk K g_Ms mi_144 332 (ga_iload 3 333) := gs_iload_n (by decide +kernel : decode mi_144.2.1 332 = .ok (.iload_n 3, 1)) rfl rfl
theorem s_144_333 {K : gC} : gOk K g_Ms mi_144 333 (ga_push (.int 1) 334) := gs_iconst (by decide +kernel : decode mi_144.2.1 333 = .ok (.iconst 1, 1)) (by decide) rfl
theorem s_144_334 {K : gC} : gOk K g_Ms mi_144 334 (ga_bin (fun x y => x + y) 335) := gs_iadd (by decide +kernel : decode mi_144.2.1 334 = .ok (.iadd, 1)) rfl
theorem s_144_335 {K : gC} : gOk K g_Ms mi_144 335 (ga_iald 336) := gs_iald (by decide +kernel : decode mi_144.2.1 335 = .ok (.iaload, 1)) rfl
theorem s_144_336 {K : gC} : gOk K g_Ms mi_144 336 (ga_aload 0 337) := gs_aload_n (by decide +kernel : decode mi_144.2.1 336 = .ok (.aload_n 0, 1)) rfl rfl
theorem s_144_337 {K : gC} : gOk K g_Ms mi_144 337 (ga_iload 3 338) := gs_iload_n (by decide +kernel : decode mi_144.2.1 337 = .ok (.iload_n 3, 1)) rfl rfl
theorem s_144_338 {K : gC} : gOk K g_Ms mi_144 338 (ga_push (.int 2) 339) := gs_iconst (by decide +kernel : decode mi_144.2.1 338 = .ok (.iconst 2, 1)) (by decide) rfl
theorem s_144_339 {K : gC} : gOk K g_Ms mi_144 339 (ga_bin (fun x y => x + y) 340) := gs_iadd (by decide +kernel : decode mi_144.2.1 339 = .ok (.iadd, 1)) rfl
theorem s_144_340 {K : gC} : gOk K g_Ms mi_144 340 (ga_iald 341) := gs_iald (by decide +kernel : decode mi_144.2.1 340 = .ok (.iaload, 1)) rfl
theorem s_144_341 {K : gC} : gOk K g_Ms mi_144 341 (ga_callV 7 103 2 344) := gs_callV gcls_7 (gce_X7_as (by decide) (by decide)) gw_835 gw_836 gw_837 (by decide +kernel : decode mi_144.2.1 341 = .ok (.invokevirtual 45, 3)) rfl
theorem s_144_344 {K : gC} : gOk K g_Ms mi_144 344 (ga_cmp (fun x y => decide (x = y)) 893 347) := gs_cmp_eq (by decide +kernel : decode mi_144.2.1 344 = .ok (.if_icmp .eq 549, 3)) (by decide) rfl
theorem s_144_347 {K : gC} : gOk K g_Ms mi_144 347 (ga_push (.int 0) 348) := gs_iconst (by decide +kernel : decode mi_144.2.1 347 = .ok (.iconst 0, 1)) (by decide) rfl
theorem s_144_348 {K : gC} : gOk K g_Ms mi_144 348 (ga_zret) := gs_zret (by decide +kernel : decode mi_144.2.1 348 = .ok (.ireturn, 1)) rfl rfl rfl
theorem s_144_349 {K : gC} : gOk K g_Ms mi_144 349 (ga_aload 1 350) := gs_aload_n (by decide +kernel : decode mi_144.2.1 349 = .ok (.aload_n 1, 1)) rfl rfl
theorem s_144_350 {K : gC} : gOk K g_Ms mi_144 350 (ga_aload 0 351) := gs_aload_n (by decide +kernel : decode mi_144.2.1 350 = .ok (.aload_n 0, 1)) rfl rfl
theorem s_144_351 {K : gC} : gOk K g_Ms mi_144 351 (ga_iload 3 352) := gs_iload_n (by decide +kernel : decode mi_144.2.1 351 = .ok (.iload_n 3, 1)) rfl rfl
theorem s_144_352 {K : gC} : gOk K g_Ms mi_144 352 (ga_push (.int 1) 353) := gs_iconst (by decide +kernel : decode mi_144.2.1 352 = .ok (.iconst 1, 1)) (by decide) rfl
theorem s_144_353 {K : gC} : gOk K g_Ms mi_144 353 (ga_bin (fun x y => x + y) 354) := gs_iadd (by decide +kernel : decode mi_144.2.1 353 = .ok (.iadd, 1)) rfl
theorem s_144_354 {K : gC} : gOk K g_Ms mi_144 354 (ga_iald 355) := gs_iald (by decide +kernel : decode mi_144.2.1 354 = .ok (.iaload, 1)) rfl
theorem s_144_355 {K : gC} : gOk K g_Ms mi_144 355 (ga_callV 6 61 1 358) := gs_callV gcls_6 (gce_X6_strike (by decide) (by decide)) gw_445 gw_446 gw_447 (by decide +kernel : decode mi_144.2.1 355 = .ok (.invokevirtual 46, 3)) rfl
theorem s_144_358 {K : gC} : gOk K g_Ms mi_144 358 (ga_aload 2 359) := gs_aload_n (by decide +kernel : decode mi_144.2.1 358 = .ok (.aload_n 2, 1)) rfl rfl
theorem s_144_359 {K : gC} : gOk K g_Ms mi_144 359 (ga_aload 0 360) := gs_aload_n (by decide +kernel : decode mi_144.2.1 359 = .ok (.aload_n 0, 1)) rfl rfl
theorem s_144_360 {K : gC} : gOk K g_Ms mi_144 360 (ga_iload 3 361) := gs_iload_n (by decide +kernel : decode mi_144.2.1 360 = .ok (.iload_n 3, 1)) rfl rfl
theorem s_144_361 {K : gC} : gOk K g_Ms mi_144 361 (ga_push (.int 1) 362) := gs_iconst (by decide +kernel : decode mi_144.2.1 361 = .ok (.iconst 1, 1)) (by decide) rfl
theorem s_144_362 {K : gC} : gOk K g_Ms mi_144 362 (ga_bin (fun x y => x + y) 363) := gs_iadd (by decide +kernel : decode mi_144.2.1 362 = .ok (.iadd, 1)) rfl
theorem s_144_363 {K : gC} : gOk K g_Ms mi_144 363 (ga_iald 364) := gs_iald (by decide +kernel : decode mi_144.2.1 363 = .ok (.iaload, 1)) rfl
theorem s_144_364 {K : gC} : gOk K g_Ms mi_144 364 (ga_callV 7 105 1 367) := gs_callV gcls_7 (gce_X7_strike (by decide) (by decide)) gw_839 gw_840 gw_841 (by decide +kernel : decode mi_144.2.1 364 = .ok (.invokevirtual 50, 3)) rfl
theorem s_144_367 {K : gC} : gOk K g_Ms mi_144 367 (ga_cmp (fun x y => decide (x = y)) 893 370) := gs_cmp_eq (by decide +kernel : decode mi_144.2.1 367 = .ok (.if_icmp .eq 526, 3)) (by decide) rfl
theorem s_144_370 {K : gC} : gOk K g_Ms mi_144 370 (ga_push (.int 0) 371) := gs_iconst (by decide +kernel : decode mi_144.2.1 370 = .ok (.iconst 0, 1)) (by decide) rfl
theorem s_144_371 {K : gC} : gOk K g_Ms mi_144 371 (ga_zret) := gs_zret (by decide +kernel : decode mi_144.2.1 371 = .ok (.ireturn, 1)) rfl rfl rfl
theorem s_144_372 {K : gC} : gOk K g_Ms mi_144 372 (ga_aload 1 373) := gs_aload_n (by decide +kernel : decode mi_144.2.1 372 = .ok (.aload_n 1, 1)) rfl rfl
theorem s_144_373 {K : gC} : gOk K g_Ms mi_144 373 (ga_aload 0 374) := gs_aload_n (by decide +kernel : decode mi_144.2.1 373 = .ok (.aload_n 0, 1)) rfl rfl
theorem s_144_374 {K : gC} : gOk K g_Ms mi_144 374 (ga_iload 3 375) := gs_iload_n (by decide +kernel : decode mi_144.2.1 374 = .ok (.iload_n 3, 1)) rfl rfl
theorem s_144_375 {K : gC} : gOk K g_Ms mi_144 375 (ga_push (.int 1) 376) := gs_iconst (by decide +kernel : decode mi_144.2.1 375 = .ok (.iconst 1, 1)) (by decide) rfl
theorem s_144_376 {K : gC} : gOk K g_Ms mi_144 376 (ga_bin (fun x y => x + y) 377) := gs_iadd (by decide +kernel : decode mi_144.2.1 376 = .ok (.iadd, 1)) rfl
theorem s_144_377 {K : gC} : gOk K g_Ms mi_144 377 (ga_iald 378) := gs_iald (by decide +kernel : decode mi_144.2.1 377 = .ok (.iaload, 1)) rfl
theorem s_144_378 {K : gC} : gOk K g_Ms mi_144 378 (ga_callV 6 62 1 381) := gs_callV gcls_6 (gce_X6_go (by decide) (by decide)) gw_459 gw_460 gw_461 (by decide +kernel : decode mi_144.2.1 378 = .ok (.invokevirtual 51, 3)) rfl
theorem s_144_381 {K : gC} : gOk K g_Ms mi_144 381 (ga_aload 2 382) := gs_aload_n (by decide +kernel : decode mi_144.2.1 381 = .ok (.aload_n 2, 1)) rfl rfl
theorem s_144_382 {K : gC} : gOk K g_Ms mi_144 382 (ga_aload 0 383) := gs_aload_n (by decide +kernel : decode mi_144.2.1 382 = .ok (.aload_n 0, 1)) rfl rfl
theorem s_144_383 {K : gC} : gOk K g_Ms mi_144 383 (ga_iload 3 384) := gs_iload_n (by decide +kernel : decode mi_144.2.1 383 = .ok (.iload_n 3, 1)) rfl rfl
theorem s_144_384 {K : gC} : gOk K g_Ms mi_144 384 (ga_push (.int 1) 385) := gs_iconst (by decide +kernel : decode mi_144.2.1 384 = .ok (.iconst 1, 1)) (by decide) rfl
theorem s_144_385 {K : gC} : gOk K g_Ms mi_144 385 (ga_bin (fun x y => x + y) 386) := gs_iadd (by decide +kernel : decode mi_144.2.1 385 = .ok (.iadd, 1)) rfl
theorem s_144_386 {K : gC} : gOk K g_Ms mi_144 386 (ga_iald 387) := gs_iald (by decide +kernel : decode mi_144.2.1 386 = .ok (.iaload, 1)) rfl
theorem s_144_387 {K : gC} : gOk K g_Ms mi_144 387 (ga_callV 7 107 1 390) := gs_callV gcls_7 (gce_X7_go (by decide) (by decide)) gw_850 gw_851 gw_852 (by decide +kernel : decode mi_144.2.1 387 = .ok (.invokevirtual 54, 3)) rfl
theorem s_144_390 {K : gC} : gOk K g_Ms mi_144 390 (ga_cmp (fun x y => decide (x = y)) 893 393) := gs_cmp_eq (by decide +kernel : decode mi_144.2.1 390 = .ok (.if_icmp .eq 503, 3)) (by decide) rfl
theorem s_144_393 {K : gC} : gOk K g_Ms mi_144 393 (ga_push (.int 0) 394) := gs_iconst (by decide +kernel : decode mi_144.2.1 393 = .ok (.iconst 0, 1)) (by decide) rfl
theorem s_144_394 {K : gC} : gOk K g_Ms mi_144 394 (ga_zret) := gs_zret (by decide +kernel : decode mi_144.2.1 394 = .ok (.ireturn, 1)) rfl rfl rfl
theorem s_144_395 {K : gC} : gOk K g_Ms mi_144 395 (ga_aload 1 396) := gs_aload_n (by decide +kernel : decode mi_144.2.1 395 = .ok (.aload_n 1, 1)) rfl rfl
theorem s_144_396 {K : gC} : gOk K g_Ms mi_144 396 (ga_aload 0 397) := gs_aload_n (by decide +kernel : decode mi_144.2.1 396 = .ok (.aload_n 0, 1)) rfl rfl
theorem s_144_397 {K : gC} : gOk K g_Ms mi_144 397 (ga_iload 3 398) := gs_iload_n (by decide +kernel : decode mi_144.2.1 397 = .ok (.iload_n 3, 1)) rfl rfl
theorem s_144_398 {K : gC} : gOk K g_Ms mi_144 398 (ga_push (.int 1) 399) := gs_iconst (by decide +kernel : decode mi_144.2.1 398 = .ok (.iconst 1, 1)) (by decide) rfl
theorem s_144_399 {K : gC} : gOk K g_Ms mi_144 399 (ga_bin (fun x y => x + y) 400) := gs_iadd (by decide +kernel : decode mi_144.2.1 399 = .ok (.iadd, 1)) rfl
theorem s_144_400 {K : gC} : gOk K g_Ms mi_144 400 (ga_iald 401) := gs_iald (by decide +kernel : decode mi_144.2.1 400 = .ok (.iaload, 1)) rfl
theorem s_144_401 {K : gC} : gOk K g_Ms mi_144 401 (ga_callV 6 63 1 404) := gs_callV gcls_6 (gce_X6_turn (by decide) (by decide)) gw_475 gw_476 gw_477 (by decide +kernel : decode mi_144.2.1 401 = .ok (.invokevirtual 55, 3)) rfl
theorem s_144_404 {K : gC} : gOk K g_Ms mi_144 404 (ga_aload 2 405) := gs_aload_n (by decide +kernel : decode mi_144.2.1 404 = .ok (.aload_n 2, 1)) rfl rfl
theorem s_144_405 {K : gC} : gOk K g_Ms mi_144 405 (ga_aload 0 406) := gs_aload_n (by decide +kernel : decode mi_144.2.1 405 = .ok (.aload_n 0, 1)) rfl rfl
theorem s_144_406 {K : gC} : gOk K g_Ms mi_144 406 (ga_iload 3 407) := gs_iload_n (by decide +kernel : decode mi_144.2.1 406 = .ok (.iload_n 3, 1)) rfl rfl
theorem s_144_407 {K : gC} : gOk K g_Ms mi_144 407 (ga_push (.int 1) 408) := gs_iconst (by decide +kernel : decode mi_144.2.1 407 = .ok (.iconst 1, 1)) (by decide) rfl
theorem s_144_408 {K : gC} : gOk K g_Ms mi_144 408 (ga_bin (fun x y => x + y) 409) := gs_iadd (by decide +kernel : decode mi_144.2.1 408 = .ok (.iadd, 1)) rfl
theorem s_144_409 {K : gC} : gOk K g_Ms mi_144 409 (ga_iald 410) := gs_iald (by decide +kernel : decode mi_144.2.1 409 = .ok (.iaload, 1)) rfl
theorem s_144_410 {K : gC} : gOk K g_Ms mi_144 410 (ga_callV 7 108 1 413) := gs_callV gcls_7 (gce_X7_turn (by decide) (by decide)) gw_859 gw_860 gw_861 (by decide +kernel : decode mi_144.2.1 410 = .ok (.invokevirtual 58, 3)) rfl
theorem s_144_413 {K : gC} : gOk K g_Ms mi_144 413 (ga_cmp (fun x y => decide (x = y)) 893 416) := gs_cmp_eq (by decide +kernel : decode mi_144.2.1 413 = .ok (.if_icmp .eq 480, 3)) (by decide) rfl
theorem s_144_416 {K : gC} : gOk K g_Ms mi_144 416 (ga_push (.int 0) 417) := gs_iconst (by decide +kernel : decode mi_144.2.1 416 = .ok (.iconst 0, 1)) (by decide) rfl
theorem s_144_417 {K : gC} : gOk K g_Ms mi_144 417 (ga_zret) := gs_zret (by decide +kernel : decode mi_144.2.1 417 = .ok (.ireturn, 1)) rfl rfl rfl
theorem s_144_418 {K : gC} : gOk K g_Ms mi_144 418 (ga_aload 1 419) := gs_aload_n (by decide +kernel : decode mi_144.2.1 418 = .ok (.aload_n 1, 1)) rfl rfl
theorem s_144_419 {K : gC} : gOk K g_Ms mi_144 419 (ga_aload 0 420) := gs_aload_n (by decide +kernel : decode mi_144.2.1 419 = .ok (.aload_n 0, 1)) rfl rfl
theorem s_144_420 {K : gC} : gOk K g_Ms mi_144 420 (ga_iload 3 421) := gs_iload_n (by decide +kernel : decode mi_144.2.1 420 = .ok (.iload_n 3, 1)) rfl rfl
theorem s_144_421 {K : gC} : gOk K g_Ms mi_144 421 (ga_push (.int 1) 422) := gs_iconst (by decide +kernel : decode mi_144.2.1 421 = .ok (.iconst 1, 1)) (by decide) rfl
theorem s_144_422 {K : gC} : gOk K g_Ms mi_144 422 (ga_bin (fun x y => x + y) 423) := gs_iadd (by decide +kernel : decode mi_144.2.1 422 = .ok (.iadd, 1)) rfl
theorem s_144_423 {K : gC} : gOk K g_Ms mi_144 423 (ga_iald 424) := gs_iald (by decide +kernel : decode mi_144.2.1 423 = .ok (.iaload, 1)) rfl
theorem s_144_424 {K : gC} : gOk K g_Ms mi_144 424 (ga_callV 6 64 1 427) := gs_callV gcls_6 (gce_X6_keep (by decide) (by decide)) gw_479 gw_480 gw_481 (by decide +kernel : decode mi_144.2.1 424 = .ok (.invokevirtual 59, 3)) rfl
theorem s_144_427 {K : gC} : gOk K g_Ms mi_144 427 (ga_aload 2 428) := gs_aload_n (by decide +kernel : decode mi_144.2.1 427 = .ok (.aload_n 2, 1)) rfl rfl
theorem s_144_428 {K : gC} : gOk K g_Ms mi_144 428 (ga_aload 0 429) := gs_aload_n (by decide +kernel : decode mi_144.2.1 428 = .ok (.aload_n 0, 1)) rfl rfl
theorem s_144_429 {K : gC} : gOk K g_Ms mi_144 429 (ga_iload 3 430) := gs_iload_n (by decide +kernel : decode mi_144.2.1 429 = .ok (.iload_n 3, 1)) rfl rfl
theorem s_144_430 {K : gC} : gOk K g_Ms mi_144 430 (ga_push (.int 1) 431) := gs_iconst (by decide +kernel : decode mi_144.2.1 430 = .ok (.iconst 1, 1)) (by decide) rfl
theorem s_144_431 {K : gC} : gOk K g_Ms mi_144 431 (ga_bin (fun x y => x + y) 432) := gs_iadd (by decide +kernel : decode mi_144.2.1 431 = .ok (.iadd, 1)) rfl
theorem s_144_432 {K : gC} : gOk K g_Ms mi_144 432 (ga_iald 433) := gs_iald (by decide +kernel : decode mi_144.2.1 432 = .ok (.iaload, 1)) rfl
theorem s_144_433 {K : gC} : gOk K g_Ms mi_144 433 (ga_callV 7 109 1 436) := gs_callV gcls_7 (gce_X7_keep (by decide) (by decide)) gw_863 gw_864 gw_865 (by decide +kernel : decode mi_144.2.1 433 = .ok (.invokevirtual 62, 3)) rfl
theorem s_144_436 {K : gC} : gOk K g_Ms mi_144 436 (ga_cmp (fun x y => decide (x = y)) 893 439) := gs_cmp_eq (by decide +kernel : decode mi_144.2.1 436 = .ok (.if_icmp .eq 457, 3)) (by decide) rfl
theorem s_144_439 {K : gC} : gOk K g_Ms mi_144 439 (ga_push (.int 0) 440) := gs_iconst (by decide +kernel : decode mi_144.2.1 439 = .ok (.iconst 0, 1)) (by decide) rfl
theorem s_144_440 {K : gC} : gOk K g_Ms mi_144 440 (ga_zret) := gs_zret (by decide +kernel : decode mi_144.2.1 440 = .ok (.ireturn, 1)) rfl rfl rfl
theorem s_144_441 {K : gC} : gOk K g_Ms mi_144 441 (ga_aload 1 442) := gs_aload_n (by decide +kernel : decode mi_144.2.1 441 = .ok (.aload_n 1, 1)) rfl rfl
theorem s_144_442 {K : gC} : gOk K g_Ms mi_144 442 (ga_aload 0 443) := gs_aload_n (by decide +kernel : decode mi_144.2.1 442 = .ok (.aload_n 0, 1)) rfl rfl
theorem s_144_443 {K : gC} : gOk K g_Ms mi_144 443 (ga_iload 3 444) := gs_iload_n (by decide +kernel : decode mi_144.2.1 443 = .ok (.iload_n 3, 1)) rfl rfl
theorem s_144_444 {K : gC} : gOk K g_Ms mi_144 444 (ga_push (.int 1) 445) := gs_iconst (by decide +kernel : decode mi_144.2.1 444 = .ok (.iconst 1, 1)) (by decide) rfl
theorem s_144_445 {K : gC} : gOk K g_Ms mi_144 445 (ga_bin (fun x y => x + y) 446) := gs_iadd (by decide +kernel : decode mi_144.2.1 445 = .ok (.iadd, 1)) rfl
theorem s_144_446 {K : gC} : gOk K g_Ms mi_144 446 (ga_iald 447) := gs_iald (by decide +kernel : decode mi_144.2.1 446 = .ok (.iaload, 1)) rfl
theorem s_144_447 {K : gC} : gOk K g_Ms mi_144 447 (ga_callV 6 65 1 450) := gs_callV gcls_6 (gce_X6_back (by decide) (by decide)) gw_487 gw_488 gw_489 (by decide +kernel : decode mi_144.2.1 447 = .ok (.invokevirtual 63, 3)) rfl
theorem s_144_450 {K : gC} : gOk K g_Ms mi_144 450 (ga_aload 2 451) := gs_aload_n (by decide +kernel : decode mi_144.2.1 450 = .ok (.aload_n 2, 1)) rfl rfl
theorem s_144_451 {K : gC} : gOk K g_Ms mi_144 451 (ga_aload 0 452) := gs_aload_n (by decide +kernel : decode mi_144.2.1 451 = .ok (.aload_n 0, 1)) rfl rfl
theorem s_144_452 {K : gC} : gOk K g_Ms mi_144 452 (ga_iload 3 453) := gs_iload_n (by decide +kernel : decode mi_144.2.1 452 = .ok (.iload_n 3, 1)) rfl rfl
theorem s_144_453 {K : gC} : gOk K g_Ms mi_144 453 (ga_push (.int 1) 454) := gs_iconst (by decide +kernel : decode mi_144.2.1 453 = .ok (.iconst 1, 1)) (by decide) rfl
theorem s_144_454 {K : gC} : gOk K g_Ms mi_144 454 (ga_bin (fun x y => x + y) 455) := gs_iadd (by decide +kernel : decode mi_144.2.1 454 = .ok (.iadd, 1)) rfl
theorem s_144_455 {K : gC} : gOk K g_Ms mi_144 455 (ga_iald 456) := gs_iald (by decide +kernel : decode mi_144.2.1 455 = .ok (.iaload, 1)) rfl
theorem s_144_456 {K : gC} : gOk K g_Ms mi_144 456 (ga_callV 7 110 1 459) := gs_callV gcls_7 (gce_X7_back (by decide) (by decide)) gw_867 gw_868 gw_869 (by decide +kernel : decode mi_144.2.1 456 = .ok (.invokevirtual 66, 3)) rfl
theorem s_144_459 {K : gC} : gOk K g_Ms mi_144 459 (ga_cmp (fun x y => decide (x = y)) 893 462) := gs_cmp_eq (by decide +kernel : decode mi_144.2.1 459 = .ok (.if_icmp .eq 434, 3)) (by decide) rfl
theorem s_144_462 {K : gC} : gOk K g_Ms mi_144 462 (ga_push (.int 0) 463) := gs_iconst (by decide +kernel : decode mi_144.2.1 462 = .ok (.iconst 0, 1)) (by decide) rfl
theorem s_144_463 {K : gC} : gOk K g_Ms mi_144 463 (ga_zret) := gs_zret (by decide +kernel : decode mi_144.2.1 463 = .ok (.ireturn, 1)) rfl rfl rfl
theorem s_144_464 {K : gC} : gOk K g_Ms mi_144 464 (ga_aload 1 465) := gs_aload_n (by decide +kernel : decode mi_144.2.1 464 = .ok (.aload_n 1, 1)) rfl rfl
theorem s_144_465 {K : gC} : gOk K g_Ms mi_144 465 (ga_aload 0 466) := gs_aload_n (by decide +kernel : decode mi_144.2.1 465 = .ok (.aload_n 0, 1)) rfl rfl
theorem s_144_466 {K : gC} : gOk K g_Ms mi_144 466 (ga_iload 3 467) := gs_iload_n (by decide +kernel : decode mi_144.2.1 466 = .ok (.iload_n 3, 1)) rfl rfl
theorem s_144_467 {K : gC} : gOk K g_Ms mi_144 467 (ga_push (.int 1) 468) := gs_iconst (by decide +kernel : decode mi_144.2.1 467 = .ok (.iconst 1, 1)) (by decide) rfl
theorem s_144_468 {K : gC} : gOk K g_Ms mi_144 468 (ga_bin (fun x y => x + y) 469) := gs_iadd (by decide +kernel : decode mi_144.2.1 468 = .ok (.iadd, 1)) rfl
theorem s_144_469 {K : gC} : gOk K g_Ms mi_144 469 (ga_iald 470) := gs_iald (by decide +kernel : decode mi_144.2.1 469 = .ok (.iaload, 1)) rfl
theorem s_144_470 {K : gC} : gOk K g_Ms mi_144 470 (ga_aload 0 471) := gs_aload_n (by decide +kernel : decode mi_144.2.1 470 = .ok (.aload_n 0, 1)) rfl rfl
theorem s_144_471 {K : gC} : gOk K g_Ms mi_144 471 (ga_iload 3 472) := gs_iload_n (by decide +kernel : decode mi_144.2.1 471 = .ok (.iload_n 3, 1)) rfl rfl
theorem s_144_472 {K : gC} : gOk K g_Ms mi_144 472 (ga_push (.int 2) 473) := gs_iconst (by decide +kernel : decode mi_144.2.1 472 = .ok (.iconst 2, 1)) (by decide) rfl
theorem s_144_473 {K : gC} : gOk K g_Ms mi_144 473 (ga_bin (fun x y => x + y) 474) := gs_iadd (by decide +kernel : decode mi_144.2.1 473 = .ok (.iadd, 1)) rfl
theorem s_144_474 {K : gC} : gOk K g_Ms mi_144 474 (ga_iald 475) := gs_iald (by decide +kernel : decode mi_144.2.1 474 = .ok (.iaload, 1)) rfl
theorem s_144_475 {K : gC} : gOk K g_Ms mi_144 475 (ga_callV 6 66 2 478) := gs_callV gcls_6 (gce_X6_first (by decide) (by decide)) gw_491 gw_492 gw_493 (by decide +kernel : decode mi_144.2.1 475 = .ok (.invokevirtual 67, 3)) rfl
theorem s_144_478 {K : gC} : gOk K g_Ms mi_144 478 (ga_aload 2 479) := gs_aload_n (by decide +kernel : decode mi_144.2.1 478 = .ok (.aload_n 2, 1)) rfl rfl
theorem s_144_479 {K : gC} : gOk K g_Ms mi_144 479 (ga_aload 0 480) := gs_aload_n (by decide +kernel : decode mi_144.2.1 479 = .ok (.aload_n 0, 1)) rfl rfl
theorem s_144_480 {K : gC} : gOk K g_Ms mi_144 480 (ga_iload 3 481) := gs_iload_n (by decide +kernel : decode mi_144.2.1 480 = .ok (.iload_n 3, 1)) rfl rfl
theorem s_144_481 {K : gC} : gOk K g_Ms mi_144 481 (ga_push (.int 1) 482) := gs_iconst (by decide +kernel : decode mi_144.2.1 481 = .ok (.iconst 1, 1)) (by decide) rfl
theorem s_144_482 {K : gC} : gOk K g_Ms mi_144 482 (ga_bin (fun x y => x + y) 483) := gs_iadd (by decide +kernel : decode mi_144.2.1 482 = .ok (.iadd, 1)) rfl
theorem s_144_483 {K : gC} : gOk K g_Ms mi_144 483 (ga_iald 484) := gs_iald (by decide +kernel : decode mi_144.2.1 483 = .ok (.iaload, 1)) rfl
theorem s_144_484 {K : gC} : gOk K g_Ms mi_144 484 (ga_aload 0 485) := gs_aload_n (by decide +kernel : decode mi_144.2.1 484 = .ok (.aload_n 0, 1)) rfl rfl
theorem s_144_485 {K : gC} : gOk K g_Ms mi_144 485 (ga_iload 3 486) := gs_iload_n (by decide +kernel : decode mi_144.2.1 485 = .ok (.iload_n 3, 1)) rfl rfl
theorem s_144_486 {K : gC} : gOk K g_Ms mi_144 486 (ga_push (.int 2) 487) := gs_iconst (by decide +kernel : decode mi_144.2.1 486 = .ok (.iconst 2, 1)) (by decide) rfl
theorem s_144_487 {K : gC} : gOk K g_Ms mi_144 487 (ga_bin (fun x y => x + y) 488) := gs_iadd (by decide +kernel : decode mi_144.2.1 487 = .ok (.iadd, 1)) rfl
theorem s_144_488 {K : gC} : gOk K g_Ms mi_144 488 (ga_iald 489) := gs_iald (by decide +kernel : decode mi_144.2.1 488 = .ok (.iaload, 1)) rfl
theorem s_144_489 {K : gC} : gOk K g_Ms mi_144 489 (ga_callV 7 115 2 492) := gs_callV gcls_7 (gce_X7_first (by decide) (by decide)) gw_871 gw_872 gw_873 (by decide +kernel : decode mi_144.2.1 489 = .ok (.invokevirtual 70, 3)) rfl
theorem s_144_492 {K : gC} : gOk K g_Ms mi_144 492 (ga_cmp (fun x y => decide (x = y)) 893 495) := gs_cmp_eq (by decide +kernel : decode mi_144.2.1 492 = .ok (.if_icmp .eq 401, 3)) (by decide) rfl
theorem s_144_495 {K : gC} : gOk K g_Ms mi_144 495 (ga_push (.int 0) 496) := gs_iconst (by decide +kernel : decode mi_144.2.1 495 = .ok (.iconst 0, 1)) (by decide) rfl
theorem s_144_496 {K : gC} : gOk K g_Ms mi_144 496 (ga_zret) := gs_zret (by decide +kernel : decode mi_144.2.1 496 = .ok (.ireturn, 1)) rfl rfl rfl
theorem s_144_497 {K : gC} : gOk K g_Ms mi_144 497 (ga_aload 1 498) := gs_aload_n (by decide +kernel : decode mi_144.2.1 497 = .ok (.aload_n 1, 1)) rfl rfl
theorem s_144_498 {K : gC} : gOk K g_Ms mi_144 498 (ga_aload 0 499) := gs_aload_n (by decide +kernel : decode mi_144.2.1 498 = .ok (.aload_n 0, 1)) rfl rfl
theorem s_144_499 {K : gC} : gOk K g_Ms mi_144 499 (ga_iload 3 500) := gs_iload_n (by decide +kernel : decode mi_144.2.1 499 = .ok (.iload_n 3, 1)) rfl rfl
theorem s_144_500 {K : gC} : gOk K g_Ms mi_144 500 (ga_push (.int 1) 501) := gs_iconst (by decide +kernel : decode mi_144.2.1 500 = .ok (.iconst 1, 1)) (by decide) rfl
theorem s_144_501 {K : gC} : gOk K g_Ms mi_144 501 (ga_bin (fun x y => x + y) 502) := gs_iadd (by decide +kernel : decode mi_144.2.1 501 = .ok (.iadd, 1)) rfl
theorem s_144_502 {K : gC} : gOk K g_Ms mi_144 502 (ga_iald 503) := gs_iald (by decide +kernel : decode mi_144.2.1 502 = .ok (.iaload, 1)) rfl
theorem s_144_503 {K : gC} : gOk K g_Ms mi_144 503 (ga_callV 6 67 1 506) := gs_callV gcls_6 (gce_X6_who (by decide) (by decide)) gw_518 gw_519 gw_520 (by decide +kernel : decode mi_144.2.1 503 = .ok (.invokevirtual 71, 3)) rfl
theorem s_144_506 {K : gC} : gOk K g_Ms mi_144 506 (ga_aload 2 507) := gs_aload_n (by decide +kernel : decode mi_144.2.1 506 = .ok (.aload_n 2, 1)) rfl rfl
theorem s_144_507 {K : gC} : gOk K g_Ms mi_144 507 (ga_aload 0 508) := gs_aload_n (by decide +kernel : decode mi_144.2.1 507 = .ok (.aload_n 0, 1)) rfl rfl
theorem s_144_508 {K : gC} : gOk K g_Ms mi_144 508 (ga_iload 3 509) := gs_iload_n (by decide +kernel : decode mi_144.2.1 508 = .ok (.iload_n 3, 1)) rfl rfl
theorem s_144_509 {K : gC} : gOk K g_Ms mi_144 509 (ga_push (.int 1) 510) := gs_iconst (by decide +kernel : decode mi_144.2.1 509 = .ok (.iconst 1, 1)) (by decide) rfl
theorem s_144_510 {K : gC} : gOk K g_Ms mi_144 510 (ga_bin (fun x y => x + y) 511) := gs_iadd (by decide +kernel : decode mi_144.2.1 510 = .ok (.iadd, 1)) rfl
theorem s_144_511 {K : gC} : gOk K g_Ms mi_144 511 (ga_iald 512) := gs_iald (by decide +kernel : decode mi_144.2.1 511 = .ok (.iaload, 1)) rfl
theorem s_144_512 {K : gC} : gOk K g_Ms mi_144 512 (ga_callV 7 116 1 515) := gs_callV gcls_7 (gce_X7_who (by decide) (by decide)) gw_887 gw_888 gw_889 (by decide +kernel : decode mi_144.2.1 512 = .ok (.invokevirtual 74, 3)) rfl
theorem s_144_515 {K : gC} : gOk K g_Ms mi_144 515 (ga_cmp (fun x y => decide (x = y)) 893 518) := gs_cmp_eq (by decide +kernel : decode mi_144.2.1 515 = .ok (.if_icmp .eq 378, 3)) (by decide) rfl
theorem s_144_518 {K : gC} : gOk K g_Ms mi_144 518 (ga_push (.int 0) 519) := gs_iconst (by decide +kernel : decode mi_144.2.1 518 = .ok (.iconst 0, 1)) (by decide) rfl
theorem s_144_519 {K : gC} : gOk K g_Ms mi_144 519 (ga_zret) := gs_zret (by decide +kernel : decode mi_144.2.1 519 = .ok (.ireturn, 1)) rfl rfl rfl
theorem s_144_520 {K : gC} : gOk K g_Ms mi_144 520 (ga_aload 1 521) := gs_aload_n (by decide +kernel : decode mi_144.2.1 520 = .ok (.aload_n 1, 1)) rfl rfl
theorem s_144_521 {K : gC} : gOk K g_Ms mi_144 521 (ga_aload 0 522) := gs_aload_n (by decide +kernel : decode mi_144.2.1 521 = .ok (.aload_n 0, 1)) rfl rfl
theorem s_144_522 {K : gC} : gOk K g_Ms mi_144 522 (ga_iload 3 523) := gs_iload_n (by decide +kernel : decode mi_144.2.1 522 = .ok (.iload_n 3, 1)) rfl rfl
theorem s_144_523 {K : gC} : gOk K g_Ms mi_144 523 (ga_push (.int 1) 524) := gs_iconst (by decide +kernel : decode mi_144.2.1 523 = .ok (.iconst 1, 1)) (by decide) rfl
theorem s_144_524 {K : gC} : gOk K g_Ms mi_144 524 (ga_bin (fun x y => x + y) 525) := gs_iadd (by decide +kernel : decode mi_144.2.1 524 = .ok (.iadd, 1)) rfl
theorem s_144_525 {K : gC} : gOk K g_Ms mi_144 525 (ga_iald 526) := gs_iald (by decide +kernel : decode mi_144.2.1 525 = .ok (.iaload, 1)) rfl
theorem s_144_526 {K : gC} : gOk K g_Ms mi_144 526 (ga_callV 6 68 1 529) := gs_callV gcls_6 (gce_X6_ends (by decide) (by decide)) gw_527 gw_528 gw_529 (by decide +kernel : decode mi_144.2.1 526 = .ok (.invokevirtual 75, 3)) rfl
theorem s_144_529 {K : gC} : gOk K g_Ms mi_144 529 (ga_aload 2 530) := gs_aload_n (by decide +kernel : decode mi_144.2.1 529 = .ok (.aload_n 2, 1)) rfl rfl
theorem s_144_530 {K : gC} : gOk K g_Ms mi_144 530 (ga_aload 0 531) := gs_aload_n (by decide +kernel : decode mi_144.2.1 530 = .ok (.aload_n 0, 1)) rfl rfl
theorem s_144_531 {K : gC} : gOk K g_Ms mi_144 531 (ga_iload 3 532) := gs_iload_n (by decide +kernel : decode mi_144.2.1 531 = .ok (.iload_n 3, 1)) rfl rfl
theorem s_144_532 {K : gC} : gOk K g_Ms mi_144 532 (ga_push (.int 1) 533) := gs_iconst (by decide +kernel : decode mi_144.2.1 532 = .ok (.iconst 1, 1)) (by decide) rfl
theorem s_144_533 {K : gC} : gOk K g_Ms mi_144 533 (ga_bin (fun x y => x + y) 534) := gs_iadd (by decide +kernel : decode mi_144.2.1 533 = .ok (.iadd, 1)) rfl
theorem s_144_534 {K : gC} : gOk K g_Ms mi_144 534 (ga_iald 535) := gs_iald (by decide +kernel : decode mi_144.2.1 534 = .ok (.iaload, 1)) rfl
theorem s_144_535 {K : gC} : gOk K g_Ms mi_144 535 (ga_callV 7 117 1 538) := gs_callV gcls_7 (gce_X7_ends (by decide) (by decide)) gw_895 gw_896 gw_897 (by decide +kernel : decode mi_144.2.1 535 = .ok (.invokevirtual 78, 3)) rfl
theorem s_144_538 {K : gC} : gOk K g_Ms mi_144 538 (ga_cmp (fun x y => decide (x = y)) 893 541) := gs_cmp_eq (by decide +kernel : decode mi_144.2.1 538 = .ok (.if_icmp .eq 355, 3)) (by decide) rfl
theorem s_144_541 {K : gC} : gOk K g_Ms mi_144 541 (ga_push (.int 0) 542) := gs_iconst (by decide +kernel : decode mi_144.2.1 541 = .ok (.iconst 0, 1)) (by decide) rfl
theorem s_144_542 {K : gC} : gOk K g_Ms mi_144 542 (ga_zret) := gs_zret (by decide +kernel : decode mi_144.2.1 542 = .ok (.ireturn, 1)) rfl rfl rfl
theorem s_144_543 {K : gC} : gOk K g_Ms mi_144 543 (ga_aload 1 544) := gs_aload_n (by decide +kernel : decode mi_144.2.1 543 = .ok (.aload_n 1, 1)) rfl rfl
theorem s_144_544 {K : gC} : gOk K g_Ms mi_144 544 (ga_aload 0 545) := gs_aload_n (by decide +kernel : decode mi_144.2.1 544 = .ok (.aload_n 0, 1)) rfl rfl
theorem s_144_545 {K : gC} : gOk K g_Ms mi_144 545 (ga_iload 3 546) := gs_iload_n (by decide +kernel : decode mi_144.2.1 545 = .ok (.iload_n 3, 1)) rfl rfl
theorem s_144_546 {K : gC} : gOk K g_Ms mi_144 546 (ga_push (.int 1) 547) := gs_iconst (by decide +kernel : decode mi_144.2.1 546 = .ok (.iconst 1, 1)) (by decide) rfl
theorem s_144_547 {K : gC} : gOk K g_Ms mi_144 547 (ga_bin (fun x y => x + y) 548) := gs_iadd (by decide +kernel : decode mi_144.2.1 547 = .ok (.iadd, 1)) rfl
theorem s_144_548 {K : gC} : gOk K g_Ms mi_144 548 (ga_iald 549) := gs_iald (by decide +kernel : decode mi_144.2.1 548 = .ok (.iaload, 1)) rfl
theorem s_144_549 {K : gC} : gOk K g_Ms mi_144 549 (ga_callV 6 69 1 552) := gs_callV gcls_6 (gce_X6_round (by decide) (by decide)) gw_538 gw_539 gw_540 (by decide +kernel : decode mi_144.2.1 549 = .ok (.invokevirtual 79, 3)) rfl
theorem s_144_552 {K : gC} : gOk K g_Ms mi_144 552 (ga_aload 2 553) := gs_aload_n (by decide +kernel : decode mi_144.2.1 552 = .ok (.aload_n 2, 1)) rfl rfl
theorem s_144_553 {K : gC} : gOk K g_Ms mi_144 553 (ga_aload 0 554) := gs_aload_n (by decide +kernel : decode mi_144.2.1 553 = .ok (.aload_n 0, 1)) rfl rfl
theorem s_144_554 {K : gC} : gOk K g_Ms mi_144 554 (ga_iload 3 555) := gs_iload_n (by decide +kernel : decode mi_144.2.1 554 = .ok (.iload_n 3, 1)) rfl rfl
theorem s_144_555 {K : gC} : gOk K g_Ms mi_144 555 (ga_push (.int 1) 556) := gs_iconst (by decide +kernel : decode mi_144.2.1 555 = .ok (.iconst 1, 1)) (by decide) rfl
theorem s_144_556 {K : gC} : gOk K g_Ms mi_144 556 (ga_bin (fun x y => x + y) 557) := gs_iadd (by decide +kernel : decode mi_144.2.1 556 = .ok (.iadd, 1)) rfl
theorem s_144_557 {K : gC} : gOk K g_Ms mi_144 557 (ga_iald 558) := gs_iald (by decide +kernel : decode mi_144.2.1 557 = .ok (.iaload, 1)) rfl
theorem s_144_558 {K : gC} : gOk K g_Ms mi_144 558 (ga_callV 7 118 1 561) := gs_callV gcls_7 (gce_X7_round (by decide) (by decide)) gw_899 gw_900 gw_901 (by decide +kernel : decode mi_144.2.1 558 = .ok (.invokevirtual 82, 3)) rfl
theorem s_144_561 {K : gC} : gOk K g_Ms mi_144 561 (ga_cmp (fun x y => decide (x = y)) 893 564) := gs_cmp_eq (by decide +kernel : decode mi_144.2.1 561 = .ok (.if_icmp .eq 332, 3)) (by decide) rfl
theorem s_144_564 {K : gC} : gOk K g_Ms mi_144 564 (ga_push (.int 0) 565) := gs_iconst (by decide +kernel : decode mi_144.2.1 564 = .ok (.iconst 0, 1)) (by decide) rfl
theorem s_144_565 {K : gC} : gOk K g_Ms mi_144 565 (ga_zret) := gs_zret (by decide +kernel : decode mi_144.2.1 565 = .ok (.ireturn, 1)) rfl rfl rfl
theorem s_144_566 {K : gC} : gOk K g_Ms mi_144 566 (ga_aload 1 567) := gs_aload_n (by decide +kernel : decode mi_144.2.1 566 = .ok (.aload_n 1, 1)) rfl rfl
theorem s_144_567 {K : gC} : gOk K g_Ms mi_144 567 (ga_aload 0 568) := gs_aload_n (by decide +kernel : decode mi_144.2.1 567 = .ok (.aload_n 0, 1)) rfl rfl
theorem s_144_568 {K : gC} : gOk K g_Ms mi_144 568 (ga_iload 3 569) := gs_iload_n (by decide +kernel : decode mi_144.2.1 568 = .ok (.iload_n 3, 1)) rfl rfl
theorem s_144_569 {K : gC} : gOk K g_Ms mi_144 569 (ga_push (.int 1) 570) := gs_iconst (by decide +kernel : decode mi_144.2.1 569 = .ok (.iconst 1, 1)) (by decide) rfl
theorem s_144_570 {K : gC} : gOk K g_Ms mi_144 570 (ga_bin (fun x y => x + y) 571) := gs_iadd (by decide +kernel : decode mi_144.2.1 570 = .ok (.iadd, 1)) rfl
theorem s_144_571 {K : gC} : gOk K g_Ms mi_144 571 (ga_iald 572) := gs_iald (by decide +kernel : decode mi_144.2.1 571 = .ok (.iaload, 1)) rfl
theorem s_144_572 {K : gC} : gOk K g_Ms mi_144 572 (ga_aload 0 573) := gs_aload_n (by decide +kernel : decode mi_144.2.1 572 = .ok (.aload_n 0, 1)) rfl rfl
theorem s_144_573 {K : gC} : gOk K g_Ms mi_144 573 (ga_iload 3 574) := gs_iload_n (by decide +kernel : decode mi_144.2.1 573 = .ok (.iload_n 3, 1)) rfl rfl
theorem s_144_574 {K : gC} : gOk K g_Ms mi_144 574 (ga_push (.int 2) 575) := gs_iconst (by decide +kernel : decode mi_144.2.1 574 = .ok (.iconst 2, 1)) (by decide) rfl
theorem s_144_575 {K : gC} : gOk K g_Ms mi_144 575 (ga_bin (fun x y => x + y) 576) := gs_iadd (by decide +kernel : decode mi_144.2.1 575 = .ok (.iadd, 1)) rfl
theorem s_144_576 {K : gC} : gOk K g_Ms mi_144 576 (ga_iald 577) := gs_iald (by decide +kernel : decode mi_144.2.1 576 = .ok (.iaload, 1)) rfl
theorem s_144_577 {K : gC} : gOk K g_Ms mi_144 577 (ga_aload 0 578) := gs_aload_n (by decide +kernel : decode mi_144.2.1 577 = .ok (.aload_n 0, 1)) rfl rfl
theorem s_144_578 {K : gC} : gOk K g_Ms mi_144 578 (ga_iload 3 579) := gs_iload_n (by decide +kernel : decode mi_144.2.1 578 = .ok (.iload_n 3, 1)) rfl rfl
theorem s_144_579 {K : gC} : gOk K g_Ms mi_144 579 (ga_push (.int 3) 580) := gs_iconst (by decide +kernel : decode mi_144.2.1 579 = .ok (.iconst 3, 1)) (by decide) rfl
theorem s_144_580 {K : gC} : gOk K g_Ms mi_144 580 (ga_bin (fun x y => x + y) 581) := gs_iadd (by decide +kernel : decode mi_144.2.1 580 = .ok (.iadd, 1)) rfl
theorem s_144_581 {K : gC} : gOk K g_Ms mi_144 581 (ga_iald 582) := gs_iald (by decide +kernel : decode mi_144.2.1 581 = .ok (.iaload, 1)) rfl
theorem s_144_582 {K : gC} : gOk K g_Ms mi_144 582 (ga_callV 6 70 3 585) := gs_callV gcls_6 (gce_X6_times (by decide) (by decide)) gw_543 gw_544 gw_545 (by decide +kernel : decode mi_144.2.1 582 = .ok (.invokevirtual 83, 3)) rfl
theorem s_144_585 {K : gC} : gOk K g_Ms mi_144 585 (ga_aload 2 586) := gs_aload_n (by decide +kernel : decode mi_144.2.1 585 = .ok (.aload_n 2, 1)) rfl rfl
theorem s_144_586 {K : gC} : gOk K g_Ms mi_144 586 (ga_aload 0 587) := gs_aload_n (by decide +kernel : decode mi_144.2.1 586 = .ok (.aload_n 0, 1)) rfl rfl
theorem s_144_587 {K : gC} : gOk K g_Ms mi_144 587 (ga_iload 3 588) := gs_iload_n (by decide +kernel : decode mi_144.2.1 587 = .ok (.iload_n 3, 1)) rfl rfl
theorem s_144_588 {K : gC} : gOk K g_Ms mi_144 588 (ga_push (.int 1) 589) := gs_iconst (by decide +kernel : decode mi_144.2.1 588 = .ok (.iconst 1, 1)) (by decide) rfl
theorem s_144_589 {K : gC} : gOk K g_Ms mi_144 589 (ga_bin (fun x y => x + y) 590) := gs_iadd (by decide +kernel : decode mi_144.2.1 589 = .ok (.iadd, 1)) rfl
theorem s_144_590 {K : gC} : gOk K g_Ms mi_144 590 (ga_iald 591) := gs_iald (by decide +kernel : decode mi_144.2.1 590 = .ok (.iaload, 1)) rfl
theorem s_144_591 {K : gC} : gOk K g_Ms mi_144 591 (ga_aload 0 592) := gs_aload_n (by decide +kernel : decode mi_144.2.1 591 = .ok (.aload_n 0, 1)) rfl rfl
theorem s_144_592 {K : gC} : gOk K g_Ms mi_144 592 (ga_iload 3 593) := gs_iload_n (by decide +kernel : decode mi_144.2.1 592 = .ok (.iload_n 3, 1)) rfl rfl
theorem s_144_593 {K : gC} : gOk K g_Ms mi_144 593 (ga_push (.int 2) 594) := gs_iconst (by decide +kernel : decode mi_144.2.1 593 = .ok (.iconst 2, 1)) (by decide) rfl
theorem s_144_594 {K : gC} : gOk K g_Ms mi_144 594 (ga_bin (fun x y => x + y) 595) := gs_iadd (by decide +kernel : decode mi_144.2.1 594 = .ok (.iadd, 1)) rfl
theorem s_144_595 {K : gC} : gOk K g_Ms mi_144 595 (ga_iald 596) := gs_iald (by decide +kernel : decode mi_144.2.1 595 = .ok (.iaload, 1)) rfl
theorem s_144_596 {K : gC} : gOk K g_Ms mi_144 596 (ga_aload 0 597) := gs_aload_n (by decide +kernel : decode mi_144.2.1 596 = .ok (.aload_n 0, 1)) rfl rfl
theorem s_144_597 {K : gC} : gOk K g_Ms mi_144 597 (ga_iload 3 598) := gs_iload_n (by decide +kernel : decode mi_144.2.1 597 = .ok (.iload_n 3, 1)) rfl rfl
theorem s_144_598 {K : gC} : gOk K g_Ms mi_144 598 (ga_push (.int 3) 599) := gs_iconst (by decide +kernel : decode mi_144.2.1 598 = .ok (.iconst 3, 1)) (by decide) rfl
theorem s_144_599 {K : gC} : gOk K g_Ms mi_144 599 (ga_bin (fun x y => x + y) 600) := gs_iadd (by decide +kernel : decode mi_144.2.1 599 = .ok (.iadd, 1)) rfl
theorem s_144_600 {K : gC} : gOk K g_Ms mi_144 600 (ga_iald 601) := gs_iald (by decide +kernel : decode mi_144.2.1 600 = .ok (.iaload, 1)) rfl
theorem s_144_601 {K : gC} : gOk K g_Ms mi_144 601 (ga_callV 7 119 3 604) := gs_callV gcls_7 (gce_X7_times (by decide) (by decide)) gw_903 gw_904 gw_905 (by decide +kernel : decode mi_144.2.1 601 = .ok (.invokevirtual 87, 3)) rfl
theorem s_144_604 {K : gC} : gOk K g_Ms mi_144 604 (ga_cmp (fun x y => decide (x = y)) 893 607) := gs_cmp_eq (by decide +kernel : decode mi_144.2.1 604 = .ok (.if_icmp .eq 289, 3)) (by decide) rfl
theorem s_144_607 {K : gC} : gOk K g_Ms mi_144 607 (ga_push (.int 0) 608) := gs_iconst (by decide +kernel : decode mi_144.2.1 607 = .ok (.iconst 0, 1)) (by decide) rfl
theorem s_144_608 {K : gC} : gOk K g_Ms mi_144 608 (ga_zret) := gs_zret (by decide +kernel : decode mi_144.2.1 608 = .ok (.ireturn, 1)) rfl rfl rfl
theorem s_144_609 {K : gC} : gOk K g_Ms mi_144 609 (ga_aload 1 610) := gs_aload_n (by decide +kernel : decode mi_144.2.1 609 = .ok (.aload_n 1, 1)) rfl rfl
theorem s_144_610 {K : gC} : gOk K g_Ms mi_144 610 (ga_aload 0 611) := gs_aload_n (by decide +kernel : decode mi_144.2.1 610 = .ok (.aload_n 0, 1)) rfl rfl
theorem s_144_611 {K : gC} : gOk K g_Ms mi_144 611 (ga_iload 3 612) := gs_iload_n (by decide +kernel : decode mi_144.2.1 611 = .ok (.iload_n 3, 1)) rfl rfl
theorem s_144_612 {K : gC} : gOk K g_Ms mi_144 612 (ga_push (.int 1) 613) := gs_iconst (by decide +kernel : decode mi_144.2.1 612 = .ok (.iconst 1, 1)) (by decide) rfl
theorem s_144_613 {K : gC} : gOk K g_Ms mi_144 613 (ga_bin (fun x y => x + y) 614) := gs_iadd (by decide +kernel : decode mi_144.2.1 613 = .ok (.iadd, 1)) rfl
theorem s_144_614 {K : gC} : gOk K g_Ms mi_144 614 (ga_iald 615) := gs_iald (by decide +kernel : decode mi_144.2.1 614 = .ok (.iaload, 1)) rfl
theorem s_144_615 {K : gC} : gOk K g_Ms mi_144 615 (ga_aload 0 616) := gs_aload_n (by decide +kernel : decode mi_144.2.1 615 = .ok (.aload_n 0, 1)) rfl rfl
theorem s_144_616 {K : gC} : gOk K g_Ms mi_144 616 (ga_iload 3 617) := gs_iload_n (by decide +kernel : decode mi_144.2.1 616 = .ok (.iload_n 3, 1)) rfl rfl
theorem s_144_617 {K : gC} : gOk K g_Ms mi_144 617 (ga_push (.int 2) 618) := gs_iconst (by decide +kernel : decode mi_144.2.1 617 = .ok (.iconst 2, 1)) (by decide) rfl
theorem s_144_618 {K : gC} : gOk K g_Ms mi_144 618 (ga_bin (fun x y => x + y) 619) := gs_iadd (by decide +kernel : decode mi_144.2.1 618 = .ok (.iadd, 1)) rfl
theorem s_144_619 {K : gC} : gOk K g_Ms mi_144 619 (ga_iald 620) := gs_iald (by decide +kernel : decode mi_144.2.1 619 = .ok (.iaload, 1)) rfl
theorem s_144_620 {K : gC} : gOk K g_Ms mi_144 620 (ga_aload 0 621) := gs_aload_n (by decide +kernel : decode mi_144.2.1 620 = .ok (.aload_n 0, 1)) rfl rfl
theorem s_144_621 {K : gC} : gOk K g_Ms mi_144 621 (ga_iload 3 622) := gs_iload_n (by decide +kernel : decode mi_144.2.1 621 = .ok (.iload_n 3, 1)) rfl rfl
theorem s_144_622 {K : gC} : gOk K g_Ms mi_144 622 (ga_push (.int 3) 623) := gs_iconst (by decide +kernel : decode mi_144.2.1 622 = .ok (.iconst 3, 1)) (by decide) rfl
theorem s_144_623 {K : gC} : gOk K g_Ms mi_144 623 (ga_bin (fun x y => x + y) 624) := gs_iadd (by decide +kernel : decode mi_144.2.1 623 = .ok (.iadd, 1)) rfl
theorem s_144_624 {K : gC} : gOk K g_Ms mi_144 624 (ga_iald 625) := gs_iald (by decide +kernel : decode mi_144.2.1 624 = .ok (.iaload, 1)) rfl
theorem s_144_625 {K : gC} : gOk K g_Ms mi_144 625 (ga_callV 6 71 3 628) := gs_callV gcls_6 (gce_X6_apart (by decide) (by decide)) gw_554 gw_555 gw_556 (by decide +kernel : decode mi_144.2.1 625 = .ok (.invokevirtual 88, 3)) rfl
theorem s_144_628 {K : gC} : gOk K g_Ms mi_144 628 (ga_aload 2 629) := gs_aload_n (by decide +kernel : decode mi_144.2.1 628 = .ok (.aload_n 2, 1)) rfl rfl
theorem s_144_629 {K : gC} : gOk K g_Ms mi_144 629 (ga_aload 0 630) := gs_aload_n (by decide +kernel : decode mi_144.2.1 629 = .ok (.aload_n 0, 1)) rfl rfl
theorem s_144_630 {K : gC} : gOk K g_Ms mi_144 630 (ga_iload 3 631) := gs_iload_n (by decide +kernel : decode mi_144.2.1 630 = .ok (.iload_n 3, 1)) rfl rfl
theorem s_144_631 {K : gC} : gOk K g_Ms mi_144 631 (ga_push (.int 1) 632) := gs_iconst (by decide +kernel : decode mi_144.2.1 631 = .ok (.iconst 1, 1)) (by decide) rfl
theorem s_144_632 {K : gC} : gOk K g_Ms mi_144 632 (ga_bin (fun x y => x + y) 633) := gs_iadd (by decide +kernel : decode mi_144.2.1 632 = .ok (.iadd, 1)) rfl
theorem s_144_633 {K : gC} : gOk K g_Ms mi_144 633 (ga_iald 634) := gs_iald (by decide +kernel : decode mi_144.2.1 633 = .ok (.iaload, 1)) rfl
theorem s_144_634 {K : gC} : gOk K g_Ms mi_144 634 (ga_aload 0 635) := gs_aload_n (by decide +kernel : decode mi_144.2.1 634 = .ok (.aload_n 0, 1)) rfl rfl
theorem s_144_635 {K : gC} : gOk K g_Ms mi_144 635 (ga_iload 3 636) := gs_iload_n (by decide +kernel : decode mi_144.2.1 635 = .ok (.iload_n 3, 1)) rfl rfl
theorem s_144_636 {K : gC} : gOk K g_Ms mi_144 636 (ga_push (.int 2) 637) := gs_iconst (by decide +kernel : decode mi_144.2.1 636 = .ok (.iconst 2, 1)) (by decide) rfl
theorem s_144_637 {K : gC} : gOk K g_Ms mi_144 637 (ga_bin (fun x y => x + y) 638) := gs_iadd (by decide +kernel : decode mi_144.2.1 637 = .ok (.iadd, 1)) rfl
theorem s_144_638 {K : gC} : gOk K g_Ms mi_144 638 (ga_iald 639) := gs_iald (by decide +kernel : decode mi_144.2.1 638 = .ok (.iaload, 1)) rfl
theorem s_144_639 {K : gC} : gOk K g_Ms mi_144 639 (ga_aload 0 640) := gs_aload_n (by decide +kernel : decode mi_144.2.1 639 = .ok (.aload_n 0, 1)) rfl rfl
theorem s_144_640 {K : gC} : gOk K g_Ms mi_144 640 (ga_iload 3 641) := gs_iload_n (by decide +kernel : decode mi_144.2.1 640 = .ok (.iload_n 3, 1)) rfl rfl
theorem s_144_641 {K : gC} : gOk K g_Ms mi_144 641 (ga_push (.int 3) 642) := gs_iconst (by decide +kernel : decode mi_144.2.1 641 = .ok (.iconst 3, 1)) (by decide) rfl
theorem s_144_642 {K : gC} : gOk K g_Ms mi_144 642 (ga_bin (fun x y => x + y) 643) := gs_iadd (by decide +kernel : decode mi_144.2.1 642 = .ok (.iadd, 1)) rfl
theorem s_144_643 {K : gC} : gOk K g_Ms mi_144 643 (ga_iald 644) := gs_iald (by decide +kernel : decode mi_144.2.1 643 = .ok (.iaload, 1)) rfl
theorem s_144_644 {K : gC} : gOk K g_Ms mi_144 644 (ga_callV 7 121 3 647) := gs_callV gcls_7 (gce_X7_apart (by decide) (by decide)) gw_907 gw_908 gw_909 (by decide +kernel : decode mi_144.2.1 644 = .ok (.invokevirtual 91, 3)) rfl
theorem s_144_647 {K : gC} : gOk K g_Ms mi_144 647 (ga_cmp (fun x y => decide (x = y)) 893 650) := gs_cmp_eq (by decide +kernel : decode mi_144.2.1 647 = .ok (.if_icmp .eq 246, 3)) (by decide) rfl
theorem s_144_650 {K : gC} : gOk K g_Ms mi_144 650 (ga_push (.int 0) 651) := gs_iconst (by decide +kernel : decode mi_144.2.1 650 = .ok (.iconst 0, 1)) (by decide) rfl
theorem s_144_651 {K : gC} : gOk K g_Ms mi_144 651 (ga_zret) := gs_zret (by decide +kernel : decode mi_144.2.1 651 = .ok (.ireturn, 1)) rfl rfl rfl
theorem s_144_652 {K : gC} : gOk K g_Ms mi_144 652 (ga_aload 1 653) := gs_aload_n (by decide +kernel : decode mi_144.2.1 652 = .ok (.aload_n 1, 1)) rfl rfl
theorem s_144_653 {K : gC} : gOk K g_Ms mi_144 653 (ga_aload 0 654) := gs_aload_n (by decide +kernel : decode mi_144.2.1 653 = .ok (.aload_n 0, 1)) rfl rfl
theorem s_144_654 {K : gC} : gOk K g_Ms mi_144 654 (ga_iload 3 655) := gs_iload_n (by decide +kernel : decode mi_144.2.1 654 = .ok (.iload_n 3, 1)) rfl rfl
theorem s_144_655 {K : gC} : gOk K g_Ms mi_144 655 (ga_push (.int 1) 656) := gs_iconst (by decide +kernel : decode mi_144.2.1 655 = .ok (.iconst 1, 1)) (by decide) rfl
theorem s_144_656 {K : gC} : gOk K g_Ms mi_144 656 (ga_bin (fun x y => x + y) 657) := gs_iadd (by decide +kernel : decode mi_144.2.1 656 = .ok (.iadd, 1)) rfl
theorem s_144_657 {K : gC} : gOk K g_Ms mi_144 657 (ga_iald 658) := gs_iald (by decide +kernel : decode mi_144.2.1 657 = .ok (.iaload, 1)) rfl
theorem s_144_658 {K : gC} : gOk K g_Ms mi_144 658 (ga_aload 0 659) := gs_aload_n (by decide +kernel : decode mi_144.2.1 658 = .ok (.aload_n 0, 1)) rfl rfl
theorem s_144_659 {K : gC} : gOk K g_Ms mi_144 659 (ga_iload 3 660) := gs_iload_n (by decide +kernel : decode mi_144.2.1 659 = .ok (.iload_n 3, 1)) rfl rfl
theorem s_144_660 {K : gC} : gOk K g_Ms mi_144 660 (ga_push (.int 2) 661) := gs_iconst (by decide +kernel : decode mi_144.2.1 660 = .ok (.iconst 2, 1)) (by decide) rfl
theorem s_144_661 {K : gC} : gOk K g_Ms mi_144 661 (ga_bin (fun x y => x + y) 662) := gs_iadd (by decide +kernel : decode mi_144.2.1 661 = .ok (.iadd, 1)) rfl
theorem s_144_662 {K : gC} : gOk K g_Ms mi_144 662 (ga_iald 663) := gs_iald (by decide +kernel : decode mi_144.2.1 662 = .ok (.iaload, 1)) rfl
theorem s_144_663 {K : gC} : gOk K g_Ms mi_144 663 (ga_aload 0 664) := gs_aload_n (by decide +kernel : decode mi_144.2.1 663 = .ok (.aload_n 0, 1)) rfl rfl
theorem s_144_664 {K : gC} : gOk K g_Ms mi_144 664 (ga_iload 3 665) := gs_iload_n (by decide +kernel : decode mi_144.2.1 664 = .ok (.iload_n 3, 1)) rfl rfl
theorem s_144_665 {K : gC} : gOk K g_Ms mi_144 665 (ga_push (.int 3) 666) := gs_iconst (by decide +kernel : decode mi_144.2.1 665 = .ok (.iconst 3, 1)) (by decide) rfl
theorem s_144_666 {K : gC} : gOk K g_Ms mi_144 666 (ga_bin (fun x y => x + y) 667) := gs_iadd (by decide +kernel : decode mi_144.2.1 666 = .ok (.iadd, 1)) rfl
theorem s_144_667 {K : gC} : gOk K g_Ms mi_144 667 (ga_iald 668) := gs_iald (by decide +kernel : decode mi_144.2.1 667 = .ok (.iaload, 1)) rfl
theorem s_144_668 {K : gC} : gOk K g_Ms mi_144 668 (ga_aload 0 669) := gs_aload_n (by decide +kernel : decode mi_144.2.1 668 = .ok (.aload_n 0, 1)) rfl rfl
theorem s_144_669 {K : gC} : gOk K g_Ms mi_144 669 (ga_iload 3 670) := gs_iload_n (by decide +kernel : decode mi_144.2.1 669 = .ok (.iload_n 3, 1)) rfl rfl
theorem s_144_670 {K : gC} : gOk K g_Ms mi_144 670 (ga_push (.int 4) 671) := gs_iconst (by decide +kernel : decode mi_144.2.1 670 = .ok (.iconst 4, 1)) (by decide) rfl
theorem s_144_671 {K : gC} : gOk K g_Ms mi_144 671 (ga_bin (fun x y => x + y) 672) := gs_iadd (by decide +kernel : decode mi_144.2.1 671 = .ok (.iadd, 1)) rfl
theorem s_144_672 {K : gC} : gOk K g_Ms mi_144 672 (ga_iald 673) := gs_iald (by decide +kernel : decode mi_144.2.1 672 = .ok (.iaload, 1)) rfl
theorem s_144_673 {K : gC} : gOk K g_Ms mi_144 673 (ga_callV 6 72 4 676) := gs_callV gcls_6 (gce_X6_change (by decide) (by decide)) gw_565 gw_566 gw_567 (by decide +kernel : decode mi_144.2.1 673 = .ok (.invokevirtual 92, 3)) rfl
theorem s_144_676 {K : gC} : gOk K g_Ms mi_144 676 (ga_aload 2 677) := gs_aload_n (by decide +kernel : decode mi_144.2.1 676 = .ok (.aload_n 2, 1)) rfl rfl
theorem s_144_677 {K : gC} : gOk K g_Ms mi_144 677 (ga_aload 0 678) := gs_aload_n (by decide +kernel : decode mi_144.2.1 677 = .ok (.aload_n 0, 1)) rfl rfl
theorem s_144_678 {K : gC} : gOk K g_Ms mi_144 678 (ga_iload 3 679) := gs_iload_n (by decide +kernel : decode mi_144.2.1 678 = .ok (.iload_n 3, 1)) rfl rfl
theorem s_144_679 {K : gC} : gOk K g_Ms mi_144 679 (ga_push (.int 1) 680) := gs_iconst (by decide +kernel : decode mi_144.2.1 679 = .ok (.iconst 1, 1)) (by decide) rfl
theorem s_144_680 {K : gC} : gOk K g_Ms mi_144 680 (ga_bin (fun x y => x + y) 681) := gs_iadd (by decide +kernel : decode mi_144.2.1 680 = .ok (.iadd, 1)) rfl
theorem s_144_681 {K : gC} : gOk K g_Ms mi_144 681 (ga_iald 682) := gs_iald (by decide +kernel : decode mi_144.2.1 681 = .ok (.iaload, 1)) rfl
theorem s_144_682 {K : gC} : gOk K g_Ms mi_144 682 (ga_aload 0 683) := gs_aload_n (by decide +kernel : decode mi_144.2.1 682 = .ok (.aload_n 0, 1)) rfl rfl
theorem s_144_683 {K : gC} : gOk K g_Ms mi_144 683 (ga_iload 3 684) := gs_iload_n (by decide +kernel : decode mi_144.2.1 683 = .ok (.iload_n 3, 1)) rfl rfl
theorem s_144_684 {K : gC} : gOk K g_Ms mi_144 684 (ga_push (.int 2) 685) := gs_iconst (by decide +kernel : decode mi_144.2.1 684 = .ok (.iconst 2, 1)) (by decide) rfl
theorem s_144_685 {K : gC} : gOk K g_Ms mi_144 685 (ga_bin (fun x y => x + y) 686) := gs_iadd (by decide +kernel : decode mi_144.2.1 685 = .ok (.iadd, 1)) rfl
theorem s_144_686 {K : gC} : gOk K g_Ms mi_144 686 (ga_iald 687) := gs_iald (by decide +kernel : decode mi_144.2.1 686 = .ok (.iaload, 1)) rfl
theorem s_144_687 {K : gC} : gOk K g_Ms mi_144 687 (ga_aload 0 688) := gs_aload_n (by decide +kernel : decode mi_144.2.1 687 = .ok (.aload_n 0, 1)) rfl rfl
theorem s_144_688 {K : gC} : gOk K g_Ms mi_144 688 (ga_iload 3 689) := gs_iload_n (by decide +kernel : decode mi_144.2.1 688 = .ok (.iload_n 3, 1)) rfl rfl
theorem s_144_689 {K : gC} : gOk K g_Ms mi_144 689 (ga_push (.int 3) 690) := gs_iconst (by decide +kernel : decode mi_144.2.1 689 = .ok (.iconst 3, 1)) (by decide) rfl
theorem s_144_690 {K : gC} : gOk K g_Ms mi_144 690 (ga_bin (fun x y => x + y) 691) := gs_iadd (by decide +kernel : decode mi_144.2.1 690 = .ok (.iadd, 1)) rfl
theorem s_144_691 {K : gC} : gOk K g_Ms mi_144 691 (ga_iald 692) := gs_iald (by decide +kernel : decode mi_144.2.1 691 = .ok (.iaload, 1)) rfl
theorem s_144_692 {K : gC} : gOk K g_Ms mi_144 692 (ga_aload 0 693) := gs_aload_n (by decide +kernel : decode mi_144.2.1 692 = .ok (.aload_n 0, 1)) rfl rfl
theorem s_144_693 {K : gC} : gOk K g_Ms mi_144 693 (ga_iload 3 694) := gs_iload_n (by decide +kernel : decode mi_144.2.1 693 = .ok (.iload_n 3, 1)) rfl rfl
theorem s_144_694 {K : gC} : gOk K g_Ms mi_144 694 (ga_push (.int 4) 695) := gs_iconst (by decide +kernel : decode mi_144.2.1 694 = .ok (.iconst 4, 1)) (by decide) rfl
theorem s_144_695 {K : gC} : gOk K g_Ms mi_144 695 (ga_bin (fun x y => x + y) 696) := gs_iadd (by decide +kernel : decode mi_144.2.1 695 = .ok (.iadd, 1)) rfl
theorem s_144_696 {K : gC} : gOk K g_Ms mi_144 696 (ga_iald 697) := gs_iald (by decide +kernel : decode mi_144.2.1 696 = .ok (.iaload, 1)) rfl
theorem s_144_697 {K : gC} : gOk K g_Ms mi_144 697 (ga_callV 7 123 4 700) := gs_callV gcls_7 (gce_X7_change (by decide) (by decide)) gw_915 gw_916 gw_917 (by decide +kernel : decode mi_144.2.1 697 = .ok (.invokevirtual 96, 3)) rfl
theorem s_144_700 {K : gC} : gOk K g_Ms mi_144 700 (ga_cmp (fun x y => decide (x = y)) 893 703) := gs_cmp_eq (by decide +kernel : decode mi_144.2.1 700 = .ok (.if_icmp .eq 193, 3)) (by decide) rfl
theorem s_144_703 {K : gC} : gOk K g_Ms mi_144 703 (ga_push (.int 0) 704) := gs_iconst (by decide +kernel : decode mi_144.2.1 703 = .ok (.iconst 0, 1)) (by decide) rfl
theorem s_144_704 {K : gC} : gOk K g_Ms mi_144 704 (ga_zret) := gs_zret (by decide +kernel : decode mi_144.2.1 704 = .ok (.ireturn, 1)) rfl rfl rfl
theorem s_144_705 {K : gC} : gOk K g_Ms mi_144 705 (ga_aload 1 706) := gs_aload_n (by decide +kernel : decode mi_144.2.1 705 = .ok (.aload_n 1, 1)) rfl rfl
theorem s_144_706 {K : gC} : gOk K g_Ms mi_144 706 (ga_aload 0 707) := gs_aload_n (by decide +kernel : decode mi_144.2.1 706 = .ok (.aload_n 0, 1)) rfl rfl
theorem s_144_707 {K : gC} : gOk K g_Ms mi_144 707 (ga_iload 3 708) := gs_iload_n (by decide +kernel : decode mi_144.2.1 707 = .ok (.iload_n 3, 1)) rfl rfl
theorem s_144_708 {K : gC} : gOk K g_Ms mi_144 708 (ga_push (.int 1) 709) := gs_iconst (by decide +kernel : decode mi_144.2.1 708 = .ok (.iconst 1, 1)) (by decide) rfl
theorem s_144_709 {K : gC} : gOk K g_Ms mi_144 709 (ga_bin (fun x y => x + y) 710) := gs_iadd (by decide +kernel : decode mi_144.2.1 709 = .ok (.iadd, 1)) rfl
theorem s_144_710 {K : gC} : gOk K g_Ms mi_144 710 (ga_iald 711) := gs_iald (by decide +kernel : decode mi_144.2.1 710 = .ok (.iaload, 1)) rfl
theorem s_144_711 {K : gC} : gOk K g_Ms mi_144 711 (ga_aload 0 712) := gs_aload_n (by decide +kernel : decode mi_144.2.1 711 = .ok (.aload_n 0, 1)) rfl rfl
theorem s_144_712 {K : gC} : gOk K g_Ms mi_144 712 (ga_iload 3 713) := gs_iload_n (by decide +kernel : decode mi_144.2.1 712 = .ok (.iload_n 3, 1)) rfl rfl
theorem s_144_713 {K : gC} : gOk K g_Ms mi_144 713 (ga_push (.int 2) 714) := gs_iconst (by decide +kernel : decode mi_144.2.1 713 = .ok (.iconst 2, 1)) (by decide) rfl
theorem s_144_714 {K : gC} : gOk K g_Ms mi_144 714 (ga_bin (fun x y => x + y) 715) := gs_iadd (by decide +kernel : decode mi_144.2.1 714 = .ok (.iadd, 1)) rfl
theorem s_144_715 {K : gC} : gOk K g_Ms mi_144 715 (ga_iald 716) := gs_iald (by decide +kernel : decode mi_144.2.1 715 = .ok (.iaload, 1)) rfl
theorem s_144_716 {K : gC} : gOk K g_Ms mi_144 716 (ga_callV 6 73 2 719) := gs_callV gcls_6 (gce_X6_over (by decide) (by decide)) gw_586 gw_587 gw_588 (by decide +kernel : decode mi_144.2.1 716 = .ok (.invokevirtual 97, 3)) rfl
theorem s_144_719 {K : gC} : gOk K g_Ms mi_144 719 (ga_aload 2 720) := gs_aload_n (by decide +kernel : decode mi_144.2.1 719 = .ok (.aload_n 2, 1)) rfl rfl
theorem s_144_720 {K : gC} : gOk K g_Ms mi_144 720 (ga_aload 0 721) := gs_aload_n (by decide +kernel : decode mi_144.2.1 720 = .ok (.aload_n 0, 1)) rfl rfl
theorem s_144_721 {K : gC} : gOk K g_Ms mi_144 721 (ga_iload 3 722) := gs_iload_n (by decide +kernel : decode mi_144.2.1 721 = .ok (.iload_n 3, 1)) rfl rfl
theorem s_144_722 {K : gC} : gOk K g_Ms mi_144 722 (ga_push (.int 1) 723) := gs_iconst (by decide +kernel : decode mi_144.2.1 722 = .ok (.iconst 1, 1)) (by decide) rfl
theorem s_144_723 {K : gC} : gOk K g_Ms mi_144 723 (ga_bin (fun x y => x + y) 724) := gs_iadd (by decide +kernel : decode mi_144.2.1 723 = .ok (.iadd, 1)) rfl
theorem s_144_724 {K : gC} : gOk K g_Ms mi_144 724 (ga_iald 725) := gs_iald (by decide +kernel : decode mi_144.2.1 724 = .ok (.iaload, 1)) rfl
theorem s_144_725 {K : gC} : gOk K g_Ms mi_144 725 (ga_aload 0 726) := gs_aload_n (by decide +kernel : decode mi_144.2.1 725 = .ok (.aload_n 0, 1)) rfl rfl
theorem s_144_726 {K : gC} : gOk K g_Ms mi_144 726 (ga_iload 3 727) := gs_iload_n (by decide +kernel : decode mi_144.2.1 726 = .ok (.iload_n 3, 1)) rfl rfl
theorem s_144_727 {K : gC} : gOk K g_Ms mi_144 727 (ga_push (.int 2) 728) := gs_iconst (by decide +kernel : decode mi_144.2.1 727 = .ok (.iconst 2, 1)) (by decide) rfl
theorem s_144_728 {K : gC} : gOk K g_Ms mi_144 728 (ga_bin (fun x y => x + y) 729) := gs_iadd (by decide +kernel : decode mi_144.2.1 728 = .ok (.iadd, 1)) rfl
theorem s_144_729 {K : gC} : gOk K g_Ms mi_144 729 (ga_iald 730) := gs_iald (by decide +kernel : decode mi_144.2.1 729 = .ok (.iaload, 1)) rfl
theorem s_144_730 {K : gC} : gOk K g_Ms mi_144 730 (ga_callV 7 126 2 733) := gs_callV gcls_7 (gce_X7_over (by decide) (by decide)) gw_923 gw_924 gw_925 (by decide +kernel : decode mi_144.2.1 730 = .ok (.invokevirtual 100, 3)) rfl
theorem s_144_733 {K : gC} : gOk K g_Ms mi_144 733 (ga_cmp (fun x y => decide (x = y)) 893 736) := gs_cmp_eq (by decide +kernel : decode mi_144.2.1 733 = .ok (.if_icmp .eq 160, 3)) (by decide) rfl
theorem s_144_736 {K : gC} : gOk K g_Ms mi_144 736 (ga_push (.int 0) 737) := gs_iconst (by decide +kernel : decode mi_144.2.1 736 = .ok (.iconst 0, 1)) (by decide) rfl
theorem s_144_737 {K : gC} : gOk K g_Ms mi_144 737 (ga_zret) := gs_zret (by decide +kernel : decode mi_144.2.1 737 = .ok (.ireturn, 1)) rfl rfl rfl
theorem s_144_738 {K : gC} : gOk K g_Ms mi_144 738 (ga_aload 1 739) := gs_aload_n (by decide +kernel : decode mi_144.2.1 738 = .ok (.aload_n 1, 1)) rfl rfl
theorem s_144_739 {K : gC} : gOk K g_Ms mi_144 739 (ga_aload 0 740) := gs_aload_n (by decide +kernel : decode mi_144.2.1 739 = .ok (.aload_n 0, 1)) rfl rfl
theorem s_144_740 {K : gC} : gOk K g_Ms mi_144 740 (ga_iload 3 741) := gs_iload_n (by decide +kernel : decode mi_144.2.1 740 = .ok (.iload_n 3, 1)) rfl rfl
theorem s_144_741 {K : gC} : gOk K g_Ms mi_144 741 (ga_push (.int 1) 742) := gs_iconst (by decide +kernel : decode mi_144.2.1 741 = .ok (.iconst 1, 1)) (by decide) rfl
theorem s_144_742 {K : gC} : gOk K g_Ms mi_144 742 (ga_bin (fun x y => x + y) 743) := gs_iadd (by decide +kernel : decode mi_144.2.1 742 = .ok (.iadd, 1)) rfl
theorem s_144_743 {K : gC} : gOk K g_Ms mi_144 743 (ga_iald 744) := gs_iald (by decide +kernel : decode mi_144.2.1 743 = .ok (.iaload, 1)) rfl
theorem s_144_744 {K : gC} : gOk K g_Ms mi_144 744 (ga_aload 0 745) := gs_aload_n (by decide +kernel : decode mi_144.2.1 744 = .ok (.aload_n 0, 1)) rfl rfl
theorem s_144_745 {K : gC} : gOk K g_Ms mi_144 745 (ga_iload 3 746) := gs_iload_n (by decide +kernel : decode mi_144.2.1 745 = .ok (.iload_n 3, 1)) rfl rfl
theorem s_144_746 {K : gC} : gOk K g_Ms mi_144 746 (ga_push (.int 2) 747) := gs_iconst (by decide +kernel : decode mi_144.2.1 746 = .ok (.iconst 2, 1)) (by decide) rfl
theorem s_144_747 {K : gC} : gOk K g_Ms mi_144 747 (ga_bin (fun x y => x + y) 748) := gs_iadd (by decide +kernel : decode mi_144.2.1 747 = .ok (.iadd, 1)) rfl
theorem s_144_748 {K : gC} : gOk K g_Ms mi_144 748 (ga_iald 749) := gs_iald (by decide +kernel : decode mi_144.2.1 748 = .ok (.iaload, 1)) rfl
theorem s_144_749 {K : gC} : gOk K g_Ms mi_144 749 (ga_aload 0 750) := gs_aload_n (by decide +kernel : decode mi_144.2.1 749 = .ok (.aload_n 0, 1)) rfl rfl
theorem s_144_750 {K : gC} : gOk K g_Ms mi_144 750 (ga_iload 3 751) := gs_iload_n (by decide +kernel : decode mi_144.2.1 750 = .ok (.iload_n 3, 1)) rfl rfl
theorem s_144_751 {K : gC} : gOk K g_Ms mi_144 751 (ga_push (.int 3) 752) := gs_iconst (by decide +kernel : decode mi_144.2.1 751 = .ok (.iconst 3, 1)) (by decide) rfl
theorem s_144_752 {K : gC} : gOk K g_Ms mi_144 752 (ga_bin (fun x y => x + y) 753) := gs_iadd (by decide +kernel : decode mi_144.2.1 752 = .ok (.iadd, 1)) rfl
theorem s_144_753 {K : gC} : gOk K g_Ms mi_144 753 (ga_iald 754) := gs_iald (by decide +kernel : decode mi_144.2.1 753 = .ok (.iaload, 1)) rfl
theorem s_144_754 {K : gC} : gOk K g_Ms mi_144 754 (ga_aload 0 755) := gs_aload_n (by decide +kernel : decode mi_144.2.1 754 = .ok (.aload_n 0, 1)) rfl rfl
theorem s_144_755 {K : gC} : gOk K g_Ms mi_144 755 (ga_iload 3 756) := gs_iload_n (by decide +kernel : decode mi_144.2.1 755 = .ok (.iload_n 3, 1)) rfl rfl
theorem s_144_756 {K : gC} : gOk K g_Ms mi_144 756 (ga_push (.int 4) 757) := gs_iconst (by decide +kernel : decode mi_144.2.1 756 = .ok (.iconst 4, 1)) (by decide) rfl
theorem s_144_757 {K : gC} : gOk K g_Ms mi_144 757 (ga_bin (fun x y => x + y) 758) := gs_iadd (by decide +kernel : decode mi_144.2.1 757 = .ok (.iadd, 1)) rfl
theorem s_144_758 {K : gC} : gOk K g_Ms mi_144 758 (ga_iald 759) := gs_iald (by decide +kernel : decode mi_144.2.1 758 = .ok (.iaload, 1)) rfl
theorem s_144_759 {K : gC} : gOk K g_Ms mi_144 759 (ga_callV 6 74 4 762) := gs_callV gcls_6 (gce_X6_odds (by decide) (by decide)) gw_600 gw_601 gw_602 (by decide +kernel : decode mi_144.2.1 759 = .ok (.invokevirtual 101, 3)) rfl
theorem s_144_762 {K : gC} : gOk K g_Ms mi_144 762 (ga_aload 2 763) := gs_aload_n (by decide +kernel : decode mi_144.2.1 762 = .ok (.aload_n 2, 1)) rfl rfl
theorem s_144_763 {K : gC} : gOk K g_Ms mi_144 763 (ga_aload 0 764) := gs_aload_n (by decide +kernel : decode mi_144.2.1 763 = .ok (.aload_n 0, 1)) rfl rfl
theorem s_144_764 {K : gC} : gOk K g_Ms mi_144 764 (ga_iload 3 765) := gs_iload_n (by decide +kernel : decode mi_144.2.1 764 = .ok (.iload_n 3, 1)) rfl rfl
theorem s_144_765 {K : gC} : gOk K g_Ms mi_144 765 (ga_push (.int 1) 766) := gs_iconst (by decide +kernel : decode mi_144.2.1 765 = .ok (.iconst 1, 1)) (by decide) rfl
theorem s_144_766 {K : gC} : gOk K g_Ms mi_144 766 (ga_bin (fun x y => x + y) 767) := gs_iadd (by decide +kernel : decode mi_144.2.1 766 = .ok (.iadd, 1)) rfl
theorem s_144_767 {K : gC} : gOk K g_Ms mi_144 767 (ga_iald 768) := gs_iald (by decide +kernel : decode mi_144.2.1 767 = .ok (.iaload, 1)) rfl
theorem s_144_768 {K : gC} : gOk K g_Ms mi_144 768 (ga_aload 0 769) := gs_aload_n (by decide +kernel : decode mi_144.2.1 768 = .ok (.aload_n 0, 1)) rfl rfl
theorem s_144_769 {K : gC} : gOk K g_Ms mi_144 769 (ga_iload 3 770) := gs_iload_n (by decide +kernel : decode mi_144.2.1 769 = .ok (.iload_n 3, 1)) rfl rfl
theorem s_144_770 {K : gC} : gOk K g_Ms mi_144 770 (ga_push (.int 2) 771) := gs_iconst (by decide +kernel : decode mi_144.2.1 770 = .ok (.iconst 2, 1)) (by decide) rfl
theorem s_144_771 {K : gC} : gOk K g_Ms mi_144 771 (ga_bin (fun x y => x + y) 772) := gs_iadd (by decide +kernel : decode mi_144.2.1 771 = .ok (.iadd, 1)) rfl
theorem s_144_772 {K : gC} : gOk K g_Ms mi_144 772 (ga_iald 773) := gs_iald (by decide +kernel : decode mi_144.2.1 772 = .ok (.iaload, 1)) rfl
theorem s_144_773 {K : gC} : gOk K g_Ms mi_144 773 (ga_aload 0 774) := gs_aload_n (by decide +kernel : decode mi_144.2.1 773 = .ok (.aload_n 0, 1)) rfl rfl
theorem s_144_774 {K : gC} : gOk K g_Ms mi_144 774 (ga_iload 3 775) := gs_iload_n (by decide +kernel : decode mi_144.2.1 774 = .ok (.iload_n 3, 1)) rfl rfl
theorem s_144_775 {K : gC} : gOk K g_Ms mi_144 775 (ga_push (.int 3) 776) := gs_iconst (by decide +kernel : decode mi_144.2.1 775 = .ok (.iconst 3, 1)) (by decide) rfl
theorem s_144_776 {K : gC} : gOk K g_Ms mi_144 776 (ga_bin (fun x y => x + y) 777) := gs_iadd (by decide +kernel : decode mi_144.2.1 776 = .ok (.iadd, 1)) rfl
theorem s_144_777 {K : gC} : gOk K g_Ms mi_144 777 (ga_iald 778) := gs_iald (by decide +kernel : decode mi_144.2.1 777 = .ok (.iaload, 1)) rfl
theorem s_144_778 {K : gC} : gOk K g_Ms mi_144 778 (ga_aload 0 779) := gs_aload_n (by decide +kernel : decode mi_144.2.1 778 = .ok (.aload_n 0, 1)) rfl rfl
theorem s_144_779 {K : gC} : gOk K g_Ms mi_144 779 (ga_iload 3 780) := gs_iload_n (by decide +kernel : decode mi_144.2.1 779 = .ok (.iload_n 3, 1)) rfl rfl
theorem s_144_780 {K : gC} : gOk K g_Ms mi_144 780 (ga_push (.int 4) 781) := gs_iconst (by decide +kernel : decode mi_144.2.1 780 = .ok (.iconst 4, 1)) (by decide) rfl
theorem s_144_781 {K : gC} : gOk K g_Ms mi_144 781 (ga_bin (fun x y => x + y) 782) := gs_iadd (by decide +kernel : decode mi_144.2.1 781 = .ok (.iadd, 1)) rfl
theorem s_144_782 {K : gC} : gOk K g_Ms mi_144 782 (ga_iald 783) := gs_iald (by decide +kernel : decode mi_144.2.1 782 = .ok (.iaload, 1)) rfl
theorem s_144_783 {K : gC} : gOk K g_Ms mi_144 783 (ga_callV 7 127 4 786) := gs_callV gcls_7 (gce_X7_odds (by decide) (by decide)) gw_934 gw_935 gw_936 (by decide +kernel : decode mi_144.2.1 783 = .ok (.invokevirtual 104, 3)) rfl
theorem s_144_786 {K : gC} : gOk K g_Ms mi_144 786 (ga_cmp (fun x y => decide (x = y)) 893 789) := gs_cmp_eq (by decide +kernel : decode mi_144.2.1 786 = .ok (.if_icmp .eq 107, 3)) (by decide) rfl
theorem s_144_789 {K : gC} : gOk K g_Ms mi_144 789 (ga_push (.int 0) 790) := gs_iconst (by decide +kernel : decode mi_144.2.1 789 = .ok (.iconst 0, 1)) (by decide) rfl
theorem s_144_790 {K : gC} : gOk K g_Ms mi_144 790 (ga_zret) := gs_zret (by decide +kernel : decode mi_144.2.1 790 = .ok (.ireturn, 1)) rfl rfl rfl
theorem s_144_791 {K : gC} : gOk K g_Ms mi_144 791 (ga_aload 1 792) := gs_aload_n (by decide +kernel : decode mi_144.2.1 791 = .ok (.aload_n 1, 1)) rfl rfl
theorem s_144_792 {K : gC} : gOk K g_Ms mi_144 792 (ga_aload 0 793) := gs_aload_n (by decide +kernel : decode mi_144.2.1 792 = .ok (.aload_n 0, 1)) rfl rfl
theorem s_144_793 {K : gC} : gOk K g_Ms mi_144 793 (ga_iload 3 794) := gs_iload_n (by decide +kernel : decode mi_144.2.1 793 = .ok (.iload_n 3, 1)) rfl rfl
theorem s_144_794 {K : gC} : gOk K g_Ms mi_144 794 (ga_push (.int 1) 795) := gs_iconst (by decide +kernel : decode mi_144.2.1 794 = .ok (.iconst 1, 1)) (by decide) rfl
theorem s_144_795 {K : gC} : gOk K g_Ms mi_144 795 (ga_bin (fun x y => x + y) 796) := gs_iadd (by decide +kernel : decode mi_144.2.1 795 = .ok (.iadd, 1)) rfl
theorem s_144_796 {K : gC} : gOk K g_Ms mi_144 796 (ga_iald 797) := gs_iald (by decide +kernel : decode mi_144.2.1 796 = .ok (.iaload, 1)) rfl
theorem s_144_797 {K : gC} : gOk K g_Ms mi_144 797 (ga_aload 0 798) := gs_aload_n (by decide +kernel : decode mi_144.2.1 797 = .ok (.aload_n 0, 1)) rfl rfl
theorem s_144_798 {K : gC} : gOk K g_Ms mi_144 798 (ga_iload 3 799) := gs_iload_n (by decide +kernel : decode mi_144.2.1 798 = .ok (.iload_n 3, 1)) rfl rfl
theorem s_144_799 {K : gC} : gOk K g_Ms mi_144 799 (ga_push (.int 2) 800) := gs_iconst (by decide +kernel : decode mi_144.2.1 799 = .ok (.iconst 2, 1)) (by decide) rfl
theorem s_144_800 {K : gC} : gOk K g_Ms mi_144 800 (ga_bin (fun x y => x + y) 801) := gs_iadd (by decide +kernel : decode mi_144.2.1 800 = .ok (.iadd, 1)) rfl
theorem s_144_801 {K : gC} : gOk K g_Ms mi_144 801 (ga_iald 802) := gs_iald (by decide +kernel : decode mi_144.2.1 801 = .ok (.iaload, 1)) rfl
theorem s_144_802 {K : gC} : gOk K g_Ms mi_144 802 (ga_callV 6 78 2 805) := gs_callV gcls_6 (gce_X6_seen (by decide) (by decide)) gw_614 gw_615 gw_616 (by decide +kernel : decode mi_144.2.1 802 = .ok (.invokevirtual 105, 3)) rfl
theorem s_144_805 {K : gC} : gOk K g_Ms mi_144 805 (ga_aload 2 806) := gs_aload_n (by decide +kernel : decode mi_144.2.1 805 = .ok (.aload_n 2, 1)) rfl rfl
theorem s_144_806 {K : gC} : gOk K g_Ms mi_144 806 (ga_aload 0 807) := gs_aload_n (by decide +kernel : decode mi_144.2.1 806 = .ok (.aload_n 0, 1)) rfl rfl
theorem s_144_807 {K : gC} : gOk K g_Ms mi_144 807 (ga_iload 3 808) := gs_iload_n (by decide +kernel : decode mi_144.2.1 807 = .ok (.iload_n 3, 1)) rfl rfl
theorem s_144_808 {K : gC} : gOk K g_Ms mi_144 808 (ga_push (.int 1) 809) := gs_iconst (by decide +kernel : decode mi_144.2.1 808 = .ok (.iconst 1, 1)) (by decide) rfl
theorem s_144_809 {K : gC} : gOk K g_Ms mi_144 809 (ga_bin (fun x y => x + y) 810) := gs_iadd (by decide +kernel : decode mi_144.2.1 809 = .ok (.iadd, 1)) rfl
theorem s_144_810 {K : gC} : gOk K g_Ms mi_144 810 (ga_iald 811) := gs_iald (by decide +kernel : decode mi_144.2.1 810 = .ok (.iaload, 1)) rfl
theorem s_144_811 {K : gC} : gOk K g_Ms mi_144 811 (ga_aload 0 812) := gs_aload_n (by decide +kernel : decode mi_144.2.1 811 = .ok (.aload_n 0, 1)) rfl rfl
theorem s_144_812 {K : gC} : gOk K g_Ms mi_144 812 (ga_iload 3 813) := gs_iload_n (by decide +kernel : decode mi_144.2.1 812 = .ok (.iload_n 3, 1)) rfl rfl
theorem s_144_813 {K : gC} : gOk K g_Ms mi_144 813 (ga_push (.int 2) 814) := gs_iconst (by decide +kernel : decode mi_144.2.1 813 = .ok (.iconst 2, 1)) (by decide) rfl
theorem s_144_814 {K : gC} : gOk K g_Ms mi_144 814 (ga_bin (fun x y => x + y) 815) := gs_iadd (by decide +kernel : decode mi_144.2.1 814 = .ok (.iadd, 1)) rfl
theorem s_144_815 {K : gC} : gOk K g_Ms mi_144 815 (ga_iald 816) := gs_iald (by decide +kernel : decode mi_144.2.1 815 = .ok (.iaload, 1)) rfl
theorem s_144_816 {K : gC} : gOk K g_Ms mi_144 816 (ga_callV 7 128 2 819) := gs_callV gcls_7 (gce_X7_seen (by decide) (by decide)) gw_938 gw_939 gw_940 (by decide +kernel : decode mi_144.2.1 816 = .ok (.invokevirtual 108, 3)) rfl
theorem s_144_819 {K : gC} : gOk K g_Ms mi_144 819 (ga_cmp (fun x y => decide (x = y)) 893 822) := gs_cmp_eq (by decide +kernel : decode mi_144.2.1 819 = .ok (.if_icmp .eq 74, 3)) (by decide) rfl
theorem s_144_822 {K : gC} : gOk K g_Ms mi_144 822 (ga_push (.int 0) 823) := gs_iconst (by decide +kernel : decode mi_144.2.1 822 = .ok (.iconst 0, 1)) (by decide) rfl
theorem s_144_823 {K : gC} : gOk K g_Ms mi_144 823 (ga_zret) := gs_zret (by decide +kernel : decode mi_144.2.1 823 = .ok (.ireturn, 1)) rfl rfl rfl
theorem s_144_824 {K : gC} : gOk K g_Ms mi_144 824 (ga_aload 1 825) := gs_aload_n (by decide +kernel : decode mi_144.2.1 824 = .ok (.aload_n 1, 1)) rfl rfl
theorem s_144_825 {K : gC} : gOk K g_Ms mi_144 825 (ga_callV 6 79 0 828) := gs_callV gcls_6 (gce_X6_forget (by decide) (by decide)) gw_622 gw_623 gw_624 (by decide +kernel : decode mi_144.2.1 825 = .ok (.invokevirtual 109, 3)) rfl
theorem s_144_828 {K : gC} : gOk K g_Ms mi_144 828 (ga_aload 2 829) := gs_aload_n (by decide +kernel : decode mi_144.2.1 828 = .ok (.aload_n 2, 1)) rfl rfl
theorem s_144_829 {K : gC} : gOk K g_Ms mi_144 829 (ga_callV 7 129 0 832) := gs_callV gcls_7 (gce_X7_forget (by decide) (by decide)) gw_942 gw_943 gw_944 (by decide +kernel : decode mi_144.2.1 829 = .ok (.invokevirtual 112, 3)) rfl
theorem s_144_832 {K : gC} : gOk K g_Ms mi_144 832 (ga_cmp (fun x y => decide (x = y)) 893 835) := gs_cmp_eq (by decide +kernel : decode mi_144.2.1 832 = .ok (.if_icmp .eq 61, 3)) (by decide) rfl
theorem s_144_835 {K : gC} : gOk K g_Ms mi_144 835 (ga_push (.int 0) 836) := gs_iconst (by decide +kernel : decode mi_144.2.1 835 = .ok (.iconst 0, 1)) (by decide) rfl
theorem s_144_836 {K : gC} : gOk K g_Ms mi_144 836 (ga_zret) := gs_zret (by decide +kernel : decode mi_144.2.1 836 = .ok (.ireturn, 1)) rfl rfl rfl
theorem s_144_837 {K : gC} : gOk K g_Ms mi_144 837 (ga_aload 1 838) := gs_aload_n (by decide +kernel : decode mi_144.2.1 837 = .ok (.aload_n 1, 1)) rfl rfl
theorem s_144_838 {K : gC} : gOk K g_Ms mi_144 838 (ga_aload 0 839) := gs_aload_n (by decide +kernel : decode mi_144.2.1 838 = .ok (.aload_n 0, 1)) rfl rfl
theorem s_144_839 {K : gC} : gOk K g_Ms mi_144 839 (ga_iload 3 840) := gs_iload_n (by decide +kernel : decode mi_144.2.1 839 = .ok (.iload_n 3, 1)) rfl rfl
theorem s_144_840 {K : gC} : gOk K g_Ms mi_144 840 (ga_push (.int 1) 841) := gs_iconst (by decide +kernel : decode mi_144.2.1 840 = .ok (.iconst 1, 1)) (by decide) rfl
theorem s_144_841 {K : gC} : gOk K g_Ms mi_144 841 (ga_bin (fun x y => x + y) 842) := gs_iadd (by decide +kernel : decode mi_144.2.1 841 = .ok (.iadd, 1)) rfl
theorem s_144_842 {K : gC} : gOk K g_Ms mi_144 842 (ga_iald 843) := gs_iald (by decide +kernel : decode mi_144.2.1 842 = .ok (.iaload, 1)) rfl
theorem s_144_843 {K : gC} : gOk K g_Ms mi_144 843 (ga_aload 0 844) := gs_aload_n (by decide +kernel : decode mi_144.2.1 843 = .ok (.aload_n 0, 1)) rfl rfl
theorem s_144_844 {K : gC} : gOk K g_Ms mi_144 844 (ga_iload 3 845) := gs_iload_n (by decide +kernel : decode mi_144.2.1 844 = .ok (.iload_n 3, 1)) rfl rfl
theorem s_144_845 {K : gC} : gOk K g_Ms mi_144 845 (ga_push (.int 2) 846) := gs_iconst (by decide +kernel : decode mi_144.2.1 845 = .ok (.iconst 2, 1)) (by decide) rfl
theorem s_144_846 {K : gC} : gOk K g_Ms mi_144 846 (ga_bin (fun x y => x + y) 847) := gs_iadd (by decide +kernel : decode mi_144.2.1 846 = .ok (.iadd, 1)) rfl
theorem s_144_847 {K : gC} : gOk K g_Ms mi_144 847 (ga_iald 848) := gs_iald (by decide +kernel : decode mi_144.2.1 847 = .ok (.iaload, 1)) rfl
theorem s_144_848 {K : gC} : gOk K g_Ms mi_144 848 (ga_callV 6 80 2 851) := gs_callV gcls_6 (gce_X6_asleep (by decide) (by decide)) gw_626 gw_627 gw_628 (by decide +kernel : decode mi_144.2.1 848 = .ok (.invokevirtual 113, 3)) rfl
theorem s_144_851 {K : gC} : gOk K g_Ms mi_144 851 (ga_aload 2 852) := gs_aload_n (by decide +kernel : decode mi_144.2.1 851 = .ok (.aload_n 2, 1)) rfl rfl
theorem s_144_852 {K : gC} : gOk K g_Ms mi_144 852 (ga_aload 0 853) := gs_aload_n (by decide +kernel : decode mi_144.2.1 852 = .ok (.aload_n 0, 1)) rfl rfl
theorem s_144_853 {K : gC} : gOk K g_Ms mi_144 853 (ga_iload 3 854) := gs_iload_n (by decide +kernel : decode mi_144.2.1 853 = .ok (.iload_n 3, 1)) rfl rfl
theorem s_144_854 {K : gC} : gOk K g_Ms mi_144 854 (ga_push (.int 1) 855) := gs_iconst (by decide +kernel : decode mi_144.2.1 854 = .ok (.iconst 1, 1)) (by decide) rfl
theorem s_144_855 {K : gC} : gOk K g_Ms mi_144 855 (ga_bin (fun x y => x + y) 856) := gs_iadd (by decide +kernel : decode mi_144.2.1 855 = .ok (.iadd, 1)) rfl
theorem s_144_856 {K : gC} : gOk K g_Ms mi_144 856 (ga_iald 857) := gs_iald (by decide +kernel : decode mi_144.2.1 856 = .ok (.iaload, 1)) rfl
theorem s_144_857 {K : gC} : gOk K g_Ms mi_144 857 (ga_aload 0 858) := gs_aload_n (by decide +kernel : decode mi_144.2.1 857 = .ok (.aload_n 0, 1)) rfl rfl
theorem s_144_858 {K : gC} : gOk K g_Ms mi_144 858 (ga_iload 3 859) := gs_iload_n (by decide +kernel : decode mi_144.2.1 858 = .ok (.iload_n 3, 1)) rfl rfl
theorem s_144_859 {K : gC} : gOk K g_Ms mi_144 859 (ga_push (.int 2) 860) := gs_iconst (by decide +kernel : decode mi_144.2.1 859 = .ok (.iconst 2, 1)) (by decide) rfl
theorem s_144_860 {K : gC} : gOk K g_Ms mi_144 860 (ga_bin (fun x y => x + y) 861) := gs_iadd (by decide +kernel : decode mi_144.2.1 860 = .ok (.iadd, 1)) rfl
theorem s_144_861 {K : gC} : gOk K g_Ms mi_144 861 (ga_iald 862) := gs_iald (by decide +kernel : decode mi_144.2.1 861 = .ok (.iaload, 1)) rfl
theorem s_144_862 {K : gC} : gOk K g_Ms mi_144 862 (ga_callV 7 131 2 865) := gs_callV gcls_7 (gce_X7_asleep (by decide) (by decide)) gw_946 gw_947 gw_948 (by decide +kernel : decode mi_144.2.1 862 = .ok (.invokevirtual 116, 3)) rfl
theorem s_144_865 {K : gC} : gOk K g_Ms mi_144 865 (ga_cmp (fun x y => decide (x = y)) 893 868) := gs_cmp_eq (by decide +kernel : decode mi_144.2.1 865 = .ok (.if_icmp .eq 28, 3)) (by decide) rfl
theorem s_144_868 {K : gC} : gOk K g_Ms mi_144 868 (ga_push (.int 0) 869) := gs_iconst (by decide +kernel : decode mi_144.2.1 868 = .ok (.iconst 0, 1)) (by decide) rfl
theorem s_144_869 {K : gC} : gOk K g_Ms mi_144 869 (ga_zret) := gs_zret (by decide +kernel : decode mi_144.2.1 869 = .ok (.ireturn, 1)) rfl rfl rfl
theorem s_144_870 {K : gC} : gOk K g_Ms mi_144 870 (ga_aload 1 871) := gs_aload_n (by decide +kernel : decode mi_144.2.1 870 = .ok (.aload_n 1, 1)) rfl rfl
theorem s_144_871 {K : gC} : gOk K g_Ms mi_144 871 (ga_aload 0 872) := gs_aload_n (by decide +kernel : decode mi_144.2.1 871 = .ok (.aload_n 0, 1)) rfl rfl
theorem s_144_872 {K : gC} : gOk K g_Ms mi_144 872 (ga_iload 3 873) := gs_iload_n (by decide +kernel : decode mi_144.2.1 872 = .ok (.iload_n 3, 1)) rfl rfl
theorem s_144_873 {K : gC} : gOk K g_Ms mi_144 873 (ga_push (.int 1) 874) := gs_iconst (by decide +kernel : decode mi_144.2.1 873 = .ok (.iconst 1, 1)) (by decide) rfl
theorem s_144_874 {K : gC} : gOk K g_Ms mi_144 874 (ga_bin (fun x y => x + y) 875) := gs_iadd (by decide +kernel : decode mi_144.2.1 874 = .ok (.iadd, 1)) rfl
theorem s_144_875 {K : gC} : gOk K g_Ms mi_144 875 (ga_iald 876) := gs_iald (by decide +kernel : decode mi_144.2.1 875 = .ok (.iaload, 1)) rfl
theorem s_144_876 {K : gC} : gOk K g_Ms mi_144 876 (ga_callV 6 81 1 879) := gs_callV gcls_6 (gce_X6_count (by decide) (by decide)) gw_634 gw_635 gw_636 (by decide +kernel : decode mi_144.2.1 876 = .ok (.invokevirtual 117, 3)) rfl
theorem s_144_879 {K : gC} : gOk K g_Ms mi_144 879 (ga_aload 2 880) := gs_aload_n (by decide +kernel : decode mi_144.2.1 879 = .ok (.aload_n 2, 1)) rfl rfl
theorem s_144_880 {K : gC} : gOk K g_Ms mi_144 880 (ga_aload 0 881) := gs_aload_n (by decide +kernel : decode mi_144.2.1 880 = .ok (.aload_n 0, 1)) rfl rfl
theorem s_144_881 {K : gC} : gOk K g_Ms mi_144 881 (ga_iload 3 882) := gs_iload_n (by decide +kernel : decode mi_144.2.1 881 = .ok (.iload_n 3, 1)) rfl rfl
theorem s_144_882 {K : gC} : gOk K g_Ms mi_144 882 (ga_push (.int 1) 883) := gs_iconst (by decide +kernel : decode mi_144.2.1 882 = .ok (.iconst 1, 1)) (by decide) rfl
theorem s_144_883 {K : gC} : gOk K g_Ms mi_144 883 (ga_bin (fun x y => x + y) 884) := gs_iadd (by decide +kernel : decode mi_144.2.1 883 = .ok (.iadd, 1)) rfl
theorem s_144_884 {K : gC} : gOk K g_Ms mi_144 884 (ga_iald 885) := gs_iald (by decide +kernel : decode mi_144.2.1 884 = .ok (.iaload, 1)) rfl
theorem s_144_885 {K : gC} : gOk K g_Ms mi_144 885 (ga_callV 7 132 1 888) := gs_callV gcls_7 (gce_X7_count (by decide) (by decide)) gw_954 gw_955 gw_956 (by decide +kernel : decode mi_144.2.1 885 = .ok (.invokevirtual 120, 3)) rfl
theorem s_144_888 {K : gC} : gOk K g_Ms mi_144 888 (ga_cmp (fun x y => decide (x = y)) 893 891) := gs_cmp_eq (by decide +kernel : decode mi_144.2.1 888 = .ok (.if_icmp .eq 5, 3)) (by decide) rfl
theorem s_144_891 {K : gC} : gOk K g_Ms mi_144 891 (ga_push (.int 0) 892) := gs_iconst (by decide +kernel : decode mi_144.2.1 891 = .ok (.iconst 0, 1)) (by decide) rfl
theorem s_144_892 {K : gC} : gOk K g_Ms mi_144 892 (ga_zret) := gs_zret (by decide +kernel : decode mi_144.2.1 892 = .ok (.ireturn, 1)) rfl rfl rfl
theorem s_144_893 {K : gC} : gOk K g_Ms mi_144 893 (ga_iinc 3 5 896) := gs_iinc (by decide +kernel : decode mi_144.2.1 893 = .ok (.iinc 3 5, 3)) (by decide) rfl
theorem s_144_896 {K : gC} : gOk K g_Ms mi_144 896 (ga_goto 18) := gs_goto (by decide +kernel : decode mi_144.2.1 896 = .ok (.goto (-878), 3)) (by decide)
theorem s_144_899 {K : gC} : gOk K g_Ms mi_144 899 (ga_push (.int 1) 900) := gs_iconst (by decide +kernel : decode mi_144.2.1 899 = .ok (.iconst 1, 1)) (by decide) rfl
theorem s_144_900 {K : gC} : gOk K g_Ms mi_144 900 (ga_zret) := gs_zret (by decide +kernel : decode mi_144.2.1 900 = .ok (.ireturn, 1)) rfl rfl rfl
set_option maxRecDepth 1000000 in
theorem ok_144 {K : gC} : ∀ e ∈ t_144, gOk K g_Ms mi_144 e.1 e.2 := by
  unfold t_144
  simp only [List.forall_mem_cons, List.not_mem_nil, false_implies, implies_true, and_true]
  exact ⟨s_144_0, s_144_3, s_144_4, s_144_7, s_144_8, s_144_11, s_144_12, s_144_15, s_144_16, s_144_17, s_144_18, s_144_19, s_144_20, s_144_21, s_144_22, s_144_23, s_144_26, s_144_27, s_144_28, s_144_29, s_144_31, s_144_32, s_144_148, s_144_149, s_144_150, s_144_151, s_144_152, s_144_153, s_144_154, s_144_155, s_144_157, s_144_158, s_144_159, s_144_160, s_144_161, s_144_162, s_144_163, s_144_164, s_144_167, s_144_168, s_144_169, s_144_170, s_144_171, s_144_172, s_144_173, s_144_174, s_144_177, s_144_178, s_144_179, s_144_180, s_144_181, s_144_182, s_144_183, s_144_184, s_144_186, s_144_187, s_144_188, s_144_189, s_144_190, s_144_191, s_144_192, s_144_193, s_144_196, s_144_197, s_144_198, s_144_199, s_144_200, s_144_201, s_144_202, s_144_203, s_144_206, s_144_209, s_144_210, s_144_211, s_144_212, s_144_215, s_144_216, s_144_219, s_144_222, s_144_223, s_144_224, s_144_225, s_144_228, s_144_229, s_144_232, s_144_235, s_144_236, s_144_237, s_144_238, s_144_241, s_144_242, s_144_245, s_144_248, s_144_249, s_144_250, s_144_251, s_144_252, s_144_253, s_144_254, s_144_255, s_144_256, s_144_257, s_144_258, s_144_259, s_144_260, s_144_261, s_144_264, s_144_265, s_144_266, s_144_267, s_144_268, s_144_269, s_144_270, s_144_271, s_144_272, s_144_273, s_144_274, s_144_275, s_144_278, s_144_281, s_144_282, s_144_283, s_144_284, s_144_285, s_144_286, s_144_287, s_144_288, s_144_289, s_144_290, s_144_291, s_144_292, s_144_293, s_144_294, s_144_297, s_144_298, s_144_299, s_144_300, s_144_301, s_144_302, s_144_303, s_144_304, s_144_305, s_144_306, s_144_307, s_144_308, s_144_311, s_144_314, s_144_315, s_144_316, s_144_317, s_144_318, s_144_319, s_144_320, s_144_321, s_144_322, s_144_323, s_144_324, s_144_325, s_144_326, s_144_327, s_144_330, s_144_331, s_144_332, s_144_333, s_144_334, s_144_335, s_144_336, s_144_337, s_144_338, s_144_339, s_144_340, s_144_341, s_144_344, s_144_347, s_144_348, s_144_349, s_144_350, s_144_351, s_144_352, s_144_353, s_144_354, s_144_355, s_144_358, s_144_359, s_144_360, s_144_361, s_144_362, s_144_363, s_144_364, s_144_367, s_144_370, s_144_371, s_144_372, s_144_373, s_144_374, s_144_375, s_144_376, s_144_377, s_144_378, s_144_381, s_144_382, s_144_383, s_144_384, s_144_385, s_144_386, s_144_387, s_144_390, s_144_393, s_144_394, s_144_395, s_144_396, s_144_397, s_144_398, s_144_399, s_144_400, s_144_401, s_144_404, s_144_405, s_144_406, s_144_407, s_144_408, s_144_409, s_144_410, s_144_413, s_144_416, s_144_417, s_144_418, s_144_419, s_144_420, s_144_421, s_144_422, s_144_423, s_144_424, s_144_427, s_144_428, s_144_429, s_144_430, s_144_431, s_144_432, s_144_433, s_144_436, s_144_439, s_144_440, s_144_441, s_144_442, s_144_443, s_144_444, s_144_445, s_144_446, s_144_447, s_144_450, s_144_451, s_144_452, s_144_453, s_144_454, s_144_455, s_144_456, s_144_459, s_144_462, s_144_463, s_144_464, s_144_465, s_144_466, s_144_467, s_144_468, s_144_469, s_144_470, s_144_471, s_144_472, s_144_473, s_144_474, s_144_475, s_144_478, s_144_479, s_144_480, s_144_481, s_144_482, s_144_483, s_144_484, s_144_485, s_144_486, s_144_487, s_144_488, s_144_489, s_144_492, s_144_495, s_144_496, s_144_497, s_144_498, s_144_499, s_144_500, s_144_501, s_144_502, s_144_503, s_144_506, s_144_507, s_144_508, s_144_509, s_144_510, s_144_511, s_144_512, s_144_515, s_144_518, s_144_519, s_144_520, s_144_521, s_144_522, s_144_523, s_144_524, s_144_525, s_144_526, s_144_529, s_144_530, s_144_531, s_144_532, s_144_533, s_144_534, s_144_535, s_144_538, s_144_541, s_144_542, s_144_543, s_144_544, s_144_545, s_144_546, s_144_547, s_144_548, s_144_549, s_144_552, s_144_553, s_144_554, s_144_555, s_144_556, s_144_557, s_144_558, s_144_561, s_144_564, s_144_565, s_144_566, s_144_567, s_144_568, s_144_569, s_144_570, s_144_571, s_144_572, s_144_573, s_144_574, s_144_575, s_144_576, s_144_577, s_144_578, s_144_579, s_144_580, s_144_581, s_144_582, s_144_585, s_144_586, s_144_587, s_144_588, s_144_589, s_144_590, s_144_591, s_144_592, s_144_593, s_144_594, s_144_595, s_144_596, s_144_597, s_144_598, s_144_599, s_144_600, s_144_601, s_144_604, s_144_607, s_144_608, s_144_609, s_144_610, s_144_611, s_144_612, s_144_613, s_144_614, s_144_615, s_144_616, s_144_617, s_144_618, s_144_619, s_144_620, s_144_621, s_144_622, s_144_623, s_144_624, s_144_625, s_144_628, s_144_629, s_144_630, s_144_631, s_144_632, s_144_633, s_144_634, s_144_635, s_144_636, s_144_637, s_144_638, s_144_639, s_144_640, s_144_641, s_144_642, s_144_643, s_144_644, s_144_647, s_144_650, s_144_651, s_144_652, s_144_653, s_144_654, s_144_655, s_144_656, s_144_657, s_144_658, s_144_659, s_144_660, s_144_661, s_144_662, s_144_663, s_144_664, s_144_665, s_144_666, s_144_667, s_144_668, s_144_669, s_144_670, s_144_671, s_144_672, s_144_673, s_144_676, s_144_677, s_144_678, s_144_679, s_144_680, s_144_681, s_144_682, s_144_683, s_144_684, s_144_685, s_144_686, s_144_687, s_144_688, s_144_689, s_144_690, s_144_691, s_144_692, s_144_693, s_144_694, s_144_695, s_144_696, s_144_697, s_144_700, s_144_703, s_144_704, s_144_705, s_144_706, s_144_707, s_144_708, s_144_709, s_144_710, s_144_711, s_144_712, s_144_713, s_144_714, s_144_715, s_144_716, s_144_719, s_144_720, s_144_721, s_144_722, s_144_723, s_144_724, s_144_725, s_144_726, s_144_727, s_144_728, s_144_729, s_144_730, s_144_733, s_144_736, s_144_737, s_144_738, s_144_739, s_144_740, s_144_741, s_144_742, s_144_743, s_144_744, s_144_745, s_144_746, s_144_747, s_144_748, s_144_749, s_144_750, s_144_751, s_144_752, s_144_753, s_144_754, s_144_755, s_144_756, s_144_757, s_144_758, s_144_759, s_144_762, s_144_763, s_144_764, s_144_765, s_144_766, s_144_767, s_144_768, s_144_769, s_144_770, s_144_771, s_144_772, s_144_773, s_144_774, s_144_775, s_144_776, s_144_777, s_144_778, s_144_779, s_144_780, s_144_781, s_144_782, s_144_783, s_144_786, s_144_789, s_144_790, s_144_791, s_144_792, s_144_793, s_144_794, s_144_795, s_144_796, s_144_797, s_144_798, s_144_799, s_144_800, s_144_801, s_144_802, s_144_805, s_144_806, s_144_807, s_144_808, s_144_809, s_144_810, s_144_811, s_144_812, s_144_813, s_144_814, s_144_815, s_144_816, s_144_819, s_144_822, s_144_823, s_144_824, s_144_825, s_144_828, s_144_829, s_144_832, s_144_835, s_144_836, s_144_837, s_144_838, s_144_839, s_144_840, s_144_841, s_144_842, s_144_843, s_144_844, s_144_845, s_144_846, s_144_847, s_144_848, s_144_851, s_144_852, s_144_853, s_144_854, s_144_855, s_144_856, s_144_857, s_144_858, s_144_859, s_144_860, s_144_861, s_144_862, s_144_865, s_144_868, s_144_869, s_144_870, s_144_871, s_144_872, s_144_873, s_144_874, s_144_875, s_144_876, s_144_879, s_144_880, s_144_881, s_144_882, s_144_883, s_144_884, s_144_885, s_144_888, s_144_891, s_144_892, s_144_893, s_144_896, s_144_899, s_144_900⟩
