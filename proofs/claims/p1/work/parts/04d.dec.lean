theorem dX7_init_231 : decode cX7_init 231 = .ok (.putfield 86, 3) := by decide +kernel
theorem dX7_init_234 : decode cX7_init 234 = .ok (.aload_n 0, 1) := by decide +kernel
theorem dX7_init_235 : decode cX7_init 235 = .ok (.sipush 900, 3) := by decide +kernel
theorem dX7_init_238 : decode cX7_init 238 = .ok (.newarray .int, 2) := by decide +kernel
theorem dX7_init_240 : decode cX7_init 240 = .ok (.putfield 89, 3) := by decide +kernel
theorem dX7_init_243 : decode cX7_init 243 = .ok (.aload_n 0, 1) := by decide +kernel
theorem dX7_init_244 : decode cX7_init 244 = .ok (.sipush 900, 3) := by decide +kernel
theorem dX7_init_247 : decode cX7_init 247 = .ok (.newarray .int, 2) := by decide +kernel
theorem dX7_init_249 : decode cX7_init 249 = .ok (.putfield 92, 3) := by decide +kernel
theorem dX7_init_252 : decode cX7_init 252 = .ok (.aload_n 0, 1) := by decide +kernel
theorem dX7_init_253 : decode cX7_init 253 = .ok (.sipush 200, 3) := by decide +kernel
theorem dX7_init_256 : decode cX7_init 256 = .ok (.newarray .int, 2) := by decide +kernel
theorem dX7_init_258 : decode cX7_init 258 = .ok (.putfield 95, 3) := by decide +kernel
theorem dX7_init_261 : decode cX7_init 261 = .ok (.aload_n 0, 1) := by decide +kernel
theorem dX7_init_262 : decode cX7_init 262 = .ok (.sipush 200, 3) := by decide +kernel
theorem dX7_init_265 : decode cX7_init 265 = .ok (.newarray .int, 2) := by decide +kernel
theorem dX7_init_267 : decode cX7_init 267 = .ok (.putfield 98, 3) := by decide +kernel
theorem dX7_init_270 : decode cX7_init 270 = .ok (.aload_n 0, 1) := by decide +kernel
theorem dX7_init_271 : decode cX7_init 271 = .ok (.bipush 120, 2) := by decide +kernel
theorem dX7_init_273 : decode cX7_init 273 = .ok (.newarray .int, 2) := by decide +kernel
theorem dX7_init_275 : decode cX7_init 275 = .ok (.putfield 101, 3) := by decide +kernel
theorem dX7_init_278 : decode cX7_init 278 = .ok (.aload_n 0, 1) := by decide +kernel
theorem dX7_init_279 : decode cX7_init 279 = .ok (.bipush 120, 2) := by decide +kernel
theorem dX7_init_281 : decode cX7_init 281 = .ok (.newarray .int, 2) := by decide +kernel
theorem dX7_init_283 : decode cX7_init 283 = .ok (.putfield 104, 3) := by decide +kernel
theorem dX7_init_286 : decode cX7_init 286 = .ok (.aload_n 0, 1) := by decide +kernel
theorem dX7_init_287 : decode cX7_init 287 = .ok (.bipush 101, 2) := by decide +kernel
theorem dX7_init_289 : decode cX7_init 289 = .ok (.newarray .int, 2) := by decide +kernel
theorem dX7_init_291 : decode cX7_init 291 = .ok (.putfield 107, 3) := by decide +kernel
theorem dX7_init_294 : decode cX7_init 294 = .ok (.aload_n 0, 1) := by decide +kernel
theorem dX7_init_295 : decode cX7_init 295 = .ok (.bipush 101, 2) := by decide +kernel
theorem dX7_init_297 : decode cX7_init 297 = .ok (.newarray .int, 2) := by decide +kernel
theorem dX7_init_299 : decode cX7_init 299 = .ok (.putfield 110, 3) := by decide +kernel
theorem dX7_init_302 : decode cX7_init 302 = .ok (.aload_n 0, 1) := by decide +kernel
theorem dX7_init_303 : decode cX7_init 303 = .ok (.iconst (-1), 1) := by decide +kernel
theorem dX7_init_304 : decode cX7_init 304 = .ok (.putfield 113, 3) := by decide +kernel
theorem dX7_init_307 : decode cX7_init 307 = .ok (.return_, 1) := by decide +kernel
theorem dX7_isName_0 : decode cX7_isName 0 = .ok (.iload_n 0, 1) := by decide +kernel
theorem dX7_isName_1 : decode cX7_isName 1 = .ok (.bipush 20, 2) := by decide +kernel
theorem dX7_isName_3 : decode cX7_isName 3 = .ok (.if_icmp .lt 13, 3) := by decide +kernel
theorem dX7_isName_16 : decode cX7_isName 16 = .ok (.iconst 0, 1) := by decide +kernel
theorem dX7_isName_17 : decode cX7_isName 17 = .ok (.ireturn, 1) := by decide +kernel
theorem dX7_isToken_0 : decode cX7_isToken 0 = .ok (.iload_n 0, 1) := by decide +kernel
theorem dX7_isToken_1 : decode cX7_isToken 1 = .ok (.ifCond .lt 9, 3) := by decide +kernel
theorem dX7_isToken_4 : decode cX7_isToken 4 = .ok (.iload_n 0, 1) := by decide +kernel
theorem dX7_isToken_5 : decode cX7_isToken 5 = .ok (.bipush 30, 2) := by decide +kernel
theorem dX7_isToken_7 : decode cX7_isToken 7 = .ok (.if_icmp .lt 9, 3) := by decide +kernel
theorem dX7_isToken_10 : decode cX7_isToken 10 = .ok (.iload_n 0, 1) := by decide +kernel
theorem dX7_isToken_11 : decode cX7_isToken 11 = .ok (.bipush 100, 2) := by decide +kernel
theorem dX7_isToken_13 : decode cX7_isToken 13 = .ok (.if_icmp .lt 7, 3) := by decide +kernel
theorem dX7_isToken_16 : decode cX7_isToken 16 = .ok (.iconst 1, 1) := by decide +kernel
theorem dX7_isToken_17 : decode cX7_isToken 17 = .ok (.goto 4, 3) := by decide +kernel
theorem dX7_isToken_20 : decode cX7_isToken 20 = .ok (.iconst 0, 1) := by decide +kernel
theorem dX7_isToken_21 : decode cX7_isToken 21 = .ok (.ireturn, 1) := by decide +kernel
theorem dX7_look_0 : decode cX7_look 0 = .ok (.aload_n 0, 1) := by decide +kernel
theorem dX7_look_1 : decode cX7_look 1 = .ok (.getfield 140, 3) := by decide +kernel
theorem dX7_look_4 : decode cX7_look 4 = .ok (.aload_n 0, 1) := by decide +kernel
theorem dX7_look_5 : decode cX7_look 5 = .ok (.getfield 137, 3) := by decide +kernel
theorem dX7_look_8 : decode cX7_look 8 = .ok (.if_icmp .ge 15, 3) := by decide +kernel
theorem dX7_look_23 : decode cX7_look 23 = .ok (.iconst (-1), 1) := by decide +kernel
theorem dX7_look_24 : decode cX7_look 24 = .ok (.ireturn, 1) := by decide +kernel
theorem dX7_outAt_0 : decode cX7_outAt 0 = .ok (.aload_n 0, 1) := by decide +kernel
theorem dX7_outAt_1 : decode cX7_outAt 1 = .ok (.iload_n 1, 1) := by decide +kernel
theorem dX7_outAt_2 : decode cX7_outAt 2 = .ok (.ifCond .lt 11, 3) := by decide +kernel
theorem dX7_outAt_5 : decode cX7_outAt 5 = .ok (.iload_n 1, 1) := by decide +kernel
theorem dX7_outAt_6 : decode cX7_outAt 6 = .ok (.aload_n 0, 1) := by decide +kernel
theorem dX7_outAt_7 : decode cX7_outAt 7 = .ok (.getfield 113, 3) := by decide +kernel
theorem dX7_outAt_10 : decode cX7_outAt 10 = .ok (.if_icmp .lt 7, 3) := by decide +kernel
theorem dX7_outAt_13 : decode cX7_outAt 13 = .ok (.iconst 1, 1) := by decide +kernel
theorem dX7_outAt_14 : decode cX7_outAt 14 = .ok (.goto 4, 3) := by decide +kernel
theorem dX7_outAt_18 : decode cX7_outAt 18 = .ok (.invokevirtual 129, 3) := by decide +kernel
theorem dX7_outAt_21 : decode cX7_outAt 21 = .ok (.ifCond .eq 7, 3) := by decide +kernel
theorem dX7_outAt_24 : decode cX7_outAt 24 = .ok (.iconst 0, 1) := by decide +kernel
theorem dX7_outAt_25 : decode cX7_outAt 25 = .ok (.goto 9, 3) := by decide +kernel
theorem dX7_outAt_34 : decode cX7_outAt 34 = .ok (.ireturn, 1) := by decide +kernel
theorem dX7_outSize_0 : decode cX7_outSize 0 = .ok (.aload_n 0, 1) := by decide +kernel
theorem dX7_outSize_1 : decode cX7_outSize 1 = .ok (.iconst 0, 1) := by decide +kernel
theorem dX7_outSize_2 : decode cX7_outSize 2 = .ok (.putfield 117, 3) := by decide +kernel
theorem dX7_outSize_5 : decode cX7_outSize 5 = .ok (.aload_n 0, 1) := by decide +kernel
theorem dX7_outSize_6 : decode cX7_outSize 6 = .ok (.getfield 113, 3) := by decide +kernel
theorem dX7_outSize_9 : decode cX7_outSize 9 = .ok (.ireturn, 1) := by decide +kernel
theorem dX7_parse_0 : decode cX7_parse 0 = .ok (.aload_n 0, 1) := by decide +kernel
theorem dX7_parse_1 : decode cX7_parse 1 = .ok (.aload_n 0, 1) := by decide +kernel
theorem dX7_parse_2 : decode cX7_parse 2 = .ok (.getfield 126, 3) := by decide +kernel
theorem dX7_parse_5 : decode cX7_parse 5 = .ok (.ifCond .eq 7, 3) := by decide +kernel
theorem dX7_parse_12 : decode cX7_parse 12 = .ok (.iconst 0, 1) := by decide +kernel
theorem dX7_parse_13 : decode cX7_parse 13 = .ok (.invokevirtual 129, 3) := by decide +kernel
theorem dX7_parse_16 : decode cX7_parse 16 = .ok (.ifCond .eq 5, 3) := by decide +kernel
theorem dX7_parse_21 : decode cX7_parse 21 = .ok (.aload_n 0, 1) := by decide +kernel
theorem dX7_parse_22 : decode cX7_parse 22 = .ok (.iconst 0, 1) := by decide +kernel
theorem dX7_parse_23 : decode cX7_parse 23 = .ok (.putfield 146, 3) := by decide +kernel
theorem dX7_parse_26 : decode cX7_parse 26 = .ok (.aload_n 0, 1) := by decide +kernel
theorem dX7_parse_27 : decode cX7_parse 27 = .ok (.iconst 0, 1) := by decide +kernel
theorem dX7_parse_28 : decode cX7_parse 28 = .ok (.putfield 120, 3) := by decide +kernel
theorem dX7_parse_31 : decode cX7_parse 31 = .ok (.aload_n 0, 1) := by decide +kernel
theorem dX7_parse_32 : decode cX7_parse 32 = .ok (.iconst 0, 1) := by decide +kernel
theorem dX7_parse_33 : decode cX7_parse 33 = .ok (.putfield 123, 3) := by decide +kernel
theorem dX7_parse_36 : decode cX7_parse 36 = .ok (.aload_n 0, 1) := by decide +kernel
theorem dX7_parse_37 : decode cX7_parse 37 = .ok (.iconst 0, 1) := by decide +kernel
theorem dX7_parse_38 : decode cX7_parse 38 = .ok (.putfield 140, 3) := by decide +kernel
theorem dX7_parse_41 : decode cX7_parse 41 = .ok (.aload_n 0, 1) := by decide +kernel
theorem dX7_parse_42 : decode cX7_parse 42 = .ok (.iconst 0, 1) := by decide +kernel
theorem dX7_parse_43 : decode cX7_parse 43 = .ok (.putfield 160, 3) := by decide +kernel
theorem dX7_parse_46 : decode cX7_parse 46 = .ok (.aload_n 0, 1) := by decide +kernel
theorem dX7_parse_47 : decode cX7_parse 47 = .ok (.iconst 0, 1) := by decide +kernel
theorem dX7_parse_48 : decode cX7_parse 48 = .ok (.iconst 0, 1) := by decide +kernel
theorem dX7_parse_49 : decode cX7_parse 49 = .ok (.iconst 0, 1) := by decide +kernel
theorem dX7_parse_50 : decode cX7_parse 50 = .ok (.iconst 0, 1) := by decide +kernel
theorem dX7_parse_51 : decode cX7_parse 51 = .ok (.invokevirtual 163, 3) := by decide +kernel
theorem dX7_parse_54 : decode cX7_parse 54 = .ok (.aload_n 0, 1) := by decide +kernel
theorem dX7_parse_55 : decode cX7_parse 55 = .ok (.getfield 120, 3) := by decide +kernel
theorem dX7_parse_58 : decode cX7_parse 58 = .ok (.ifCond .le 18, 3) := by decide +kernel
theorem dX7_parse_61 : decode cX7_parse 61 = .ok (.aload_n 0, 1) := by decide +kernel
theorem dX7_parse_62 : decode cX7_parse 62 = .ok (.invokevirtual 205, 3) := by decide +kernel
theorem dX7_parse_65 : decode cX7_parse 65 = .ok (.ifCond .eq 11, 3) := by decide +kernel
theorem dX7_parse_68 : decode cX7_parse 68 = .ok (.aload_n 0, 1) := by decide +kernel
theorem dX7_parse_69 : decode cX7_parse 69 = .ok (.iconst 0, 1) := by decide +kernel
theorem dX7_parse_70 : decode cX7_parse 70 = .ok (.putfield 160, 3) := by decide +kernel
theorem dX7_parse_73 : decode cX7_parse 73 = .ok (.goto (-19), 3) := by decide +kernel
theorem dX7_parse_76 : decode cX7_parse 76 = .ok (.aload_n 0, 1) := by decide +kernel
theorem dX7_parse_77 : decode cX7_parse 77 = .ok (.getfield 160, 3) := by decide +kernel
theorem dX7_parse_80 : decode cX7_parse 80 = .ok (.ifCond .ne 24, 3) := by decide +kernel
theorem dX7_parse_104 : decode cX7_parse 104 = .ok (.aload_n 0, 1) := by decide +kernel
theorem dX7_parse_105 : decode cX7_parse 105 = .ok (.getfield 160, 3) := by decide +kernel
theorem dX7_parse_108 : decode cX7_parse 108 = .ok (.ifCond .eq 8, 3) := by decide +kernel
theorem dX7_parse_111 : decode cX7_parse 111 = .ok (.aload_n 0, 1) := by decide +kernel
theorem dX7_parse_112 : decode cX7_parse 112 = .ok (.getfield 160, 3) := by decide +kernel
theorem dX7_parse_115 : decode cX7_parse 115 = .ok (.ireturn, 1) := by decide +kernel
theorem dX7_phase_0 : decode cX7_phase 0 = .ok (.aload_n 0, 1) := by decide +kernel
theorem dX7_phase_1 : decode cX7_phase 1 = .ok (.iconst 0, 1) := by decide +kernel
theorem dX7_phase_2 : decode cX7_phase 2 = .ok (.putfield 117, 3) := by decide +kernel
theorem dX7_phase_5 : decode cX7_phase 5 = .ok (.aload_n 0, 1) := by decide +kernel
theorem dX7_phase_6 : decode cX7_phase 6 = .ok (.getfield 126, 3) := by decide +kernel
theorem dX7_phase_9 : decode cX7_phase 9 = .ok (.ireturn, 1) := by decide +kernel
theorem dX7_put_0 : decode cX7_put 0 = .ok (.aload_n 0, 1) := by decide +kernel
theorem dX7_put_1 : decode cX7_put 1 = .ok (.getfield 37, 3) := by decide +kernel
theorem dX7_put_4 : decode cX7_put 4 = .ok (.aload_n 0, 1) := by decide +kernel
theorem dX7_put_5 : decode cX7_put 5 = .ok (.getfield 120, 3) := by decide +kernel
theorem dX7_put_8 : decode cX7_put 8 = .ok (.iload_n 1, 1) := by decide +kernel
theorem dX7_put_9 : decode cX7_put 9 = .ok (.iastore, 1) := by decide +kernel
theorem dX7_put_10 : decode cX7_put 10 = .ok (.aload_n 0, 1) := by decide +kernel
theorem dX7_put_11 : decode cX7_put 11 = .ok (.getfield 40, 3) := by decide +kernel
theorem dX7_put_14 : decode cX7_put 14 = .ok (.aload_n 0, 1) := by decide +kernel
theorem dX7_put_15 : decode cX7_put 15 = .ok (.getfield 120, 3) := by decide +kernel
theorem dX7_put_18 : decode cX7_put 18 = .ok (.iload_n 2, 1) := by decide +kernel
theorem dX7_put_19 : decode cX7_put 19 = .ok (.iastore, 1) := by decide +kernel
theorem dX7_put_20 : decode cX7_put 20 = .ok (.aload_n 0, 1) := by decide +kernel
theorem dX7_put_21 : decode cX7_put 21 = .ok (.getfield 43, 3) := by decide +kernel
theorem dX7_put_24 : decode cX7_put 24 = .ok (.aload_n 0, 1) := by decide +kernel
theorem dX7_put_25 : decode cX7_put 25 = .ok (.getfield 120, 3) := by decide +kernel
theorem dX7_put_28 : decode cX7_put 28 = .ok (.iload_n 3, 1) := by decide +kernel
theorem dX7_put_29 : decode cX7_put 29 = .ok (.iastore, 1) := by decide +kernel
theorem dX7_put_30 : decode cX7_put 30 = .ok (.aload_n 0, 1) := by decide +kernel
theorem dX7_put_31 : decode cX7_put 31 = .ok (.getfield 46, 3) := by decide +kernel
theorem dX7_put_34 : decode cX7_put 34 = .ok (.aload_n 0, 1) := by decide +kernel
theorem dX7_put_35 : decode cX7_put 35 = .ok (.getfield 120, 3) := by decide +kernel
theorem dX7_put_38 : decode cX7_put 38 = .ok (.iload 4, 2) := by decide +kernel
theorem dX7_put_40 : decode cX7_put 40 = .ok (.iastore, 1) := by decide +kernel
theorem dX7_put_41 : decode cX7_put 41 = .ok (.aload_n 0, 1) := by decide +kernel
theorem dX7_put_42 : decode cX7_put 42 = .ok (.dup, 1) := by decide +kernel
theorem dX7_put_43 : decode cX7_put 43 = .ok (.getfield 120, 3) := by decide +kernel
theorem dX7_put_46 : decode cX7_put 46 = .ok (.iconst 1, 1) := by decide +kernel
theorem dX7_put_47 : decode cX7_put 47 = .ok (.iadd, 1) := by decide +kernel
theorem dX7_put_48 : decode cX7_put 48 = .ok (.putfield 120, 3) := by decide +kernel
theorem dX7_put_51 : decode cX7_put 51 = .ok (.return_, 1) := by decide +kernel
theorem dX7_read_0 : decode cX7_read 0 = .ok (.aload_n 0, 1) := by decide +kernel
theorem dX7_read_1 : decode cX7_read 1 = .ok (.dup, 1) := by decide +kernel
theorem dX7_read_2 : decode cX7_read 2 = .ok (.getfield 120, 3) := by decide +kernel
theorem dX7_read_5 : decode cX7_read 5 = .ok (.iconst 1, 1) := by decide +kernel
theorem dX7_read_6 : decode cX7_read 6 = .ok (.isub, 1) := by decide +kernel
theorem dX7_read_7 : decode cX7_read 7 = .ok (.putfield 120, 3) := by decide +kernel
theorem dX7_read_10 : decode cX7_read 10 = .ok (.aload_n 0, 1) := by decide +kernel
theorem dX7_read_11 : decode cX7_read 11 = .ok (.getfield 37, 3) := by decide +kernel
theorem dX7_read_14 : decode cX7_read 14 = .ok (.aload_n 0, 1) := by decide +kernel
theorem dX7_read_15 : decode cX7_read 15 = .ok (.getfield 120, 3) := by decide +kernel
theorem dX7_read_18 : decode cX7_read 18 = .ok (.iaload, 1) := by decide +kernel
theorem dX7_read_19 : decode cX7_read 19 = .ok (.istore_n 1, 1) := by decide +kernel
theorem dX7_read_20 : decode cX7_read 20 = .ok (.aload_n 0, 1) := by decide +kernel
theorem dX7_read_21 : decode cX7_read 21 = .ok (.getfield 46, 3) := by decide +kernel
theorem dX7_read_24 : decode cX7_read 24 = .ok (.aload_n 0, 1) := by decide +kernel
theorem dX7_read_25 : decode cX7_read 25 = .ok (.getfield 120, 3) := by decide +kernel
theorem dX7_read_28 : decode cX7_read 28 = .ok (.iaload, 1) := by decide +kernel
theorem dX7_read_29 : decode cX7_read 29 = .ok (.istore_n 2, 1) := by decide +kernel
theorem dX7_read_30 : decode cX7_read 30 = .ok (.aload_n 0, 1) := by decide +kernel
theorem dX7_read_31 : decode cX7_read 31 = .ok (.getfield 40, 3) := by decide +kernel
theorem dX7_read_34 : decode cX7_read 34 = .ok (.aload_n 0, 1) := by decide +kernel
theorem dX7_read_35 : decode cX7_read 35 = .ok (.getfield 120, 3) := by decide +kernel
theorem dX7_read_38 : decode cX7_read 38 = .ok (.iaload, 1) := by decide +kernel
theorem dX7_read_39 : decode cX7_read 39 = .ok (.istore_n 3, 1) := by decide +kernel
theorem dX7_read_40 : decode cX7_read 40 = .ok (.iload_n 2, 1) := by decide +kernel
theorem dX7_read_41 : decode cX7_read 41 = .ok (.bipush 7, 2) := by decide +kernel
theorem dX7_read_43 : decode cX7_read 43 = .ok (.if_icmp .le 25, 3) := by decide +kernel
theorem dX7_read_68 : decode cX7_read 68 = .ok (.aload_n 0, 1) := by decide +kernel
theorem dX7_read_69 : decode cX7_read 69 = .ok (.invokevirtual 167, 3) := by decide +kernel
theorem dX7_read_72 : decode cX7_read 72 = .ok (.istore 4, 2) := by decide +kernel
theorem dX7_read_74 : decode cX7_read 74 = .ok (.iload_n 1, 1) := by decide +kernel
theorem dX7_read_75 : decode cX7_read 75 = .ok (.ifCond .ne 81, 3) := by decide +kernel
theorem dX7_read_78 : decode cX7_read 78 = .ok (.iload 4, 2) := by decide +kernel
theorem dX7_read_80 : decode cX7_read 80 = .ok (.iconst 4, 1) := by decide +kernel
theorem dX7_read_81 : decode cX7_read 81 = .ok (.if_icmp .lt 64, 3) := by decide +kernel
theorem dX7_read_145 : decode cX7_read 145 = .ok (.aload_n 0, 1) := by decide +kernel
theorem dX7_read_146 : decode cX7_read 146 = .ok (.iconst 1, 1) := by decide +kernel
theorem dX7_read_147 : decode cX7_read 147 = .ok (.iconst 0, 1) := by decide +kernel
theorem dX7_read_148 : decode cX7_read 148 = .ok (.iconst 0, 1) := by decide +kernel
theorem dX7_read_149 : decode cX7_read 149 = .ok (.iload_n 2, 1) := by decide +kernel
theorem dX7_read_150 : decode cX7_read 150 = .ok (.invokevirtual 163, 3) := by decide +kernel
theorem dX7_read_153 : decode cX7_read 153 = .ok (.goto 177, 3) := by decide +kernel
theorem dX7_read_156 : decode cX7_read 156 = .ok (.iload_n 1, 1) := by decide +kernel
theorem dX7_read_157 : decode cX7_read 157 = .ok (.iconst 1, 1) := by decide +kernel
theorem dX7_read_158 : decode cX7_read 158 = .ok (.if_icmp .eq 25, 3) := by decide +kernel
theorem dX7_read_161 : decode cX7_read 161 = .ok (.iload_n 1, 1) := by decide +kernel
theorem dX7_read_162 : decode cX7_read 162 = .ok (.iconst 3, 1) := by decide +kernel
theorem dX7_read_163 : decode cX7_read 163 = .ok (.if_icmp .eq 20, 3) := by decide +kernel
theorem dX7_read_166 : decode cX7_read 166 = .ok (.iload_n 1, 1) := by decide +kernel
theorem dX7_read_167 : decode cX7_read 167 = .ok (.iconst 5, 1) := by decide +kernel
theorem dX7_read_168 : decode cX7_read 168 = .ok (.if_icmp .eq 15, 3) := by decide +kernel
theorem dX7_read_171 : decode cX7_read 171 = .ok (.iload_n 1, 1) := by decide +kernel
theorem dX7_read_172 : decode cX7_read 172 = .ok (.bipush 7, 2) := by decide +kernel
theorem dX7_read_174 : decode cX7_read 174 = .ok (.if_icmp .eq 9, 3) := by decide +kernel
theorem dX7_read_177 : decode cX7_read 177 = .ok (.iload_n 1, 1) := by decide +kernel
theorem dX7_read_178 : decode cX7_read 178 = .ok (.bipush 9, 2) := by decide +kernel
theorem dX7_read_180 : decode cX7_read 180 = .ok (.if_icmp .ne 26, 3) := by decide +kernel
theorem dX7_read_183 : decode cX7_read 183 = .ok (.aload_n 0, 1) := by decide +kernel
theorem dX7_read_184 : decode cX7_read 184 = .ok (.iload_n 1, 1) := by decide +kernel
theorem dX7_read_185 : decode cX7_read 185 = .ok (.iconst 1, 1) := by decide +kernel
theorem dX7_read_186 : decode cX7_read 186 = .ok (.iadd, 1) := by decide +kernel
theorem dX7_read_187 : decode cX7_read 187 = .ok (.iconst 0, 1) := by decide +kernel
theorem dX7_read_188 : decode cX7_read 188 = .ok (.iconst 0, 1) := by decide +kernel
theorem dX7_read_189 : decode cX7_read 189 = .ok (.iload_n 2, 1) := by decide +kernel
theorem dX7_read_190 : decode cX7_read 190 = .ok (.invokevirtual 163, 3) := by decide +kernel
theorem dX7_read_193 : decode cX7_read 193 = .ok (.aload_n 0, 1) := by decide +kernel
theorem dX7_read_194 : decode cX7_read 194 = .ok (.iload_n 1, 1) := by decide +kernel
theorem dX7_read_195 : decode cX7_read 195 = .ok (.iconst 2, 1) := by decide +kernel
theorem dX7_read_196 : decode cX7_read 196 = .ok (.iadd, 1) := by decide +kernel
theorem dX7_read_197 : decode cX7_read 197 = .ok (.iconst 0, 1) := by decide +kernel
theorem dX7_read_198 : decode cX7_read 198 = .ok (.iconst 0, 1) := by decide +kernel
theorem dX7_read_199 : decode cX7_read 199 = .ok (.iload_n 2, 1) := by decide +kernel
theorem dX7_read_200 : decode cX7_read 200 = .ok (.invokevirtual 163, 3) := by decide +kernel
theorem dX7_read_203 : decode cX7_read 203 = .ok (.goto 127, 3) := by decide +kernel
theorem dX7_read_206 : decode cX7_read 206 = .ok (.iload_n 1, 1) := by decide +kernel
theorem dX7_read_207 : decode cX7_read 207 = .ok (.bipush 11, 2) := by decide +kernel
theorem dX7_read_209 : decode cX7_read 209 = .ok (.if_icmp .ne 9, 3) := by decide +kernel
theorem dX7_read_212 : decode cX7_read 212 = .ok (.aload_n 0, 1) := by decide +kernel
theorem dX7_read_213 : decode cX7_read 213 = .ok (.iload_n 2, 1) := by decide +kernel
theorem dX7_read_214 : decode cX7_read 214 = .ok (.invokevirtual 193, 3) := by decide +kernel
theorem dX7_read_217 : decode cX7_read 217 = .ok (.ireturn, 1) := by decide +kernel
theorem dX7_read_330 : decode cX7_read 330 = .ok (.iconst 1, 1) := by decide +kernel
theorem dX7_read_331 : decode cX7_read 331 = .ok (.ireturn, 1) := by decide +kernel
theorem dX7_refuse_0 : decode cX7_refuse 0 = .ok (.aload_n 0, 1) := by decide +kernel
theorem dX7_refuse_1 : decode cX7_refuse 1 = .ok (.iconst 1, 1) := by decide +kernel
