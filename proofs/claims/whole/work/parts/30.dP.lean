theorem dP_init_0 : decode bP_init 0 = .ok (.aload_n 0, 1) := by decide +kernel
theorem dP_init_1 : decode bP_init 1 = .ok (.invokespecial 3, 3) := by decide +kernel
theorem dP_init_4 : decode bP_init 4 = .ok (.aload_n 0, 1) := by decide +kernel
theorem dP_init_5 : decode bP_init 5 = .ok (.new 9, 3) := by decide +kernel
theorem dP_init_8 : decode bP_init 8 = .ok (.dup, 1) := by decide +kernel
theorem dP_init_9 : decode bP_init 9 = .ok (.invokespecial 11, 3) := by decide +kernel
theorem dP_init_12 : decode bP_init 12 = .ok (.putfield 12, 3) := by decide +kernel
theorem dP_init_15 : decode bP_init 15 = .ok (.aload_n 0, 1) := by decide +kernel
theorem dP_init_16 : decode bP_init 16 = .ok (.new 9, 3) := by decide +kernel
theorem dP_init_19 : decode bP_init 19 = .ok (.dup, 1) := by decide +kernel
theorem dP_init_20 : decode bP_init 20 = .ok (.invokespecial 11, 3) := by decide +kernel
theorem dP_init_23 : decode bP_init 23 = .ok (.putfield 18, 3) := by decide +kernel
theorem dP_init_26 : decode bP_init 26 = .ok (.aload_n 0, 1) := by decide +kernel
theorem dP_init_27 : decode bP_init 27 = .ok (.bipush 26, 2) := by decide +kernel
theorem dP_init_29 : decode bP_init 29 = .ok (.newarray .int, 2) := by decide +kernel
theorem dP_init_31 : decode bP_init 31 = .ok (.putfield 21, 3) := by decide +kernel
theorem dP_init_34 : decode bP_init 34 = .ok (.aload_n 0, 1) := by decide +kernel
theorem dP_init_35 : decode bP_init 35 = .ok (.iconst 0, 1) := by decide +kernel
theorem dP_init_36 : decode bP_init 36 = .ok (.putfield 25, 3) := by decide +kernel
theorem dP_init_39 : decode bP_init 39 = .ok (.aload_n 0, 1) := by decide +kernel
theorem dP_init_40 : decode bP_init 40 = .ok (.iconst 0, 1) := by decide +kernel
theorem dP_init_41 : decode bP_init 41 = .ok (.putfield 29, 3) := by decide +kernel
theorem dP_init_44 : decode bP_init 44 = .ok (.return_, 1) := by decide +kernel
theorem dP_parse_0 : decode bP_parse 0 = .ok (.aload_n 1, 1) := by decide +kernel
theorem dP_parse_1 : decode bP_parse 1 = .ok (.aload_n 0, 1) := by decide +kernel
theorem dP_parse_2 : decode bP_parse 2 = .ok (.getfield 12, 3) := by decide +kernel
theorem dP_parse_5 : decode bP_parse 5 = .ok (.invokevirtual 32, 3) := by decide +kernel
theorem dP_parse_8 : decode bP_parse 8 = .ok (.aload_n 0, 1) := by decide +kernel
theorem dP_parse_9 : decode bP_parse 9 = .ok (.getfield 18, 3) := by decide +kernel
theorem dP_parse_12 : decode bP_parse 12 = .ok (.invokevirtual 38, 3) := by decide +kernel
theorem dP_parse_15 : decode bP_parse 15 = .ok (.aload_n 0, 1) := by decide +kernel
theorem dP_parse_16 : decode bP_parse 16 = .ok (.iconst 0, 1) := by decide +kernel
theorem dP_parse_17 : decode bP_parse 17 = .ok (.putfield 25, 3) := by decide +kernel
theorem dP_parse_20 : decode bP_parse 20 = .ok (.aload_n 0, 1) := by decide +kernel
theorem dP_parse_21 : decode bP_parse 21 = .ok (.iconst 0, 1) := by decide +kernel
theorem dP_parse_22 : decode bP_parse 22 = .ok (.putfield 29, 3) := by decide +kernel
theorem dP_parse_25 : decode bP_parse 25 = .ok (.iconst 0, 1) := by decide +kernel
theorem dP_parse_26 : decode bP_parse 26 = .ok (.istore_n 2, 1) := by decide +kernel
theorem dP_parse_27 : decode bP_parse 27 = .ok (.iload_n 2, 1) := by decide +kernel
theorem dP_parse_28 : decode bP_parse 28 = .ok (.aload_n 0, 1) := by decide +kernel
theorem dP_parse_29 : decode bP_parse 29 = .ok (.getfield 21, 3) := by decide +kernel
theorem dP_parse_32 : decode bP_parse 32 = .ok (.arraylength, 1) := by decide +kernel
theorem dP_parse_33 : decode bP_parse 33 = .ok (.if_icmp .ge 16, 3) := by decide +kernel
theorem dP_parse_36 : decode bP_parse 36 = .ok (.aload_n 0, 1) := by decide +kernel
theorem dP_parse_37 : decode bP_parse 37 = .ok (.getfield 21, 3) := by decide +kernel
theorem dP_parse_40 : decode bP_parse 40 = .ok (.iload_n 2, 1) := by decide +kernel
theorem dP_parse_41 : decode bP_parse 41 = .ok (.iconst (-1), 1) := by decide +kernel
theorem dP_parse_42 : decode bP_parse 42 = .ok (.iastore, 1) := by decide +kernel
theorem dP_parse_43 : decode bP_parse 43 = .ok (.iinc 2 1, 3) := by decide +kernel
theorem dP_parse_46 : decode bP_parse 46 = .ok (.goto (-19), 3) := by decide +kernel
theorem dP_parse_49 : decode bP_parse 49 = .ok (.aload_n 0, 1) := by decide +kernel
theorem dP_parse_50 : decode bP_parse 50 = .ok (.iconst 0, 1) := by decide +kernel
theorem dP_parse_51 : decode bP_parse 51 = .ok (.invokevirtual 41, 3) := by decide +kernel
theorem dP_parse_54 : decode bP_parse 54 = .ok (.ifCond .eq 21, 3) := by decide +kernel
theorem dP_parse_57 : decode bP_parse 57 = .ok (.aload_n 0, 1) := by decide +kernel
theorem dP_parse_58 : decode bP_parse 58 = .ok (.getfield 12, 3) := by decide +kernel
theorem dP_parse_61 : decode bP_parse 61 = .ok (.aload_n 0, 1) := by decide +kernel
theorem dP_parse_62 : decode bP_parse 62 = .ok (.getfield 25, 3) := by decide +kernel
theorem dP_parse_65 : decode bP_parse 65 = .ok (.invokevirtual 45, 3) := by decide +kernel
theorem dP_parse_68 : decode bP_parse 68 = .ok (.ifCond .ne 7, 3) := by decide +kernel
theorem dP_parse_71 : decode bP_parse 71 = .ok (.iconst 1, 1) := by decide +kernel
theorem dP_parse_72 : decode bP_parse 72 = .ok (.goto 4, 3) := by decide +kernel
theorem dP_parse_75 : decode bP_parse 75 = .ok (.iconst 0, 1) := by decide +kernel
theorem dP_parse_76 : decode bP_parse 76 = .ok (.ireturn, 1) := by decide +kernel
theorem dP_stopPlace_0 : decode bP_stopPlace 0 = .ok (.aload_n 0, 1) := by decide +kernel
theorem dP_stopPlace_1 : decode bP_stopPlace 1 = .ok (.getfield 12, 3) := by decide +kernel
theorem dP_stopPlace_4 : decode bP_stopPlace 4 = .ok (.aload_n 0, 1) := by decide +kernel
theorem dP_stopPlace_5 : decode bP_stopPlace 5 = .ok (.getfield 25, 3) := by decide +kernel
theorem dP_stopPlace_8 : decode bP_stopPlace 8 = .ok (.invokevirtual 49, 3) := by decide +kernel
theorem dP_stopPlace_11 : decode bP_stopPlace 11 = .ok (.ireturn, 1) := by decide +kernel
theorem dP_program_0 : decode bP_program 0 = .ok (.aload_n 0, 1) := by decide +kernel
theorem dP_program_1 : decode bP_program 1 = .ok (.getfield 18, 3) := by decide +kernel
theorem dP_program_4 : decode bP_program 4 = .ok (.areturn, 1) := by decide +kernel
theorem dP_sum_0 : decode bP_sum 0 = .ok (.aload_n 0, 1) := by decide +kernel
theorem dP_sum_1 : decode bP_sum 1 = .ok (.iload_n 1, 1) := by decide +kernel
theorem dP_sum_2 : decode bP_sum 2 = .ok (.invokevirtual 52, 3) := by decide +kernel
theorem dP_sum_5 : decode bP_sum 5 = .ok (.ifCond .ne 5, 3) := by decide +kernel
theorem dP_sum_8 : decode bP_sum 8 = .ok (.iconst 0, 1) := by decide +kernel
theorem dP_sum_9 : decode bP_sum 9 = .ok (.ireturn, 1) := by decide +kernel
theorem dP_sum_10 : decode bP_sum 10 = .ok (.iconst 0, 1) := by decide +kernel
theorem dP_sum_11 : decode bP_sum 11 = .ok (.istore_n 2, 1) := by decide +kernel
theorem dP_sum_12 : decode bP_sum 12 = .ok (.iload_n 2, 1) := by decide +kernel
theorem dP_sum_13 : decode bP_sum 13 = .ok (.bipush 80, 2) := by decide +kernel
theorem dP_sum_15 : decode bP_sum 15 = .ok (.if_icmp .ge 64, 3) := by decide +kernel
theorem dP_sum_18 : decode bP_sum 18 = .ok (.aload_n 0, 1) := by decide +kernel
theorem dP_sum_19 : decode bP_sum 19 = .ok (.getfield 12, 3) := by decide +kernel
theorem dP_sum_22 : decode bP_sum 22 = .ok (.aload_n 0, 1) := by decide +kernel
theorem dP_sum_23 : decode bP_sum 23 = .ok (.getfield 25, 3) := by decide +kernel
theorem dP_sum_26 : decode bP_sum 26 = .ok (.invokevirtual 45, 3) := by decide +kernel
theorem dP_sum_29 : decode bP_sum 29 = .ok (.invokestatic 55, 3) := by decide +kernel
theorem dP_sum_32 : decode bP_sum 32 = .ok (.ifCond .eq 47, 3) := by decide +kernel
theorem dP_sum_35 : decode bP_sum 35 = .ok (.aload_n 0, 1) := by decide +kernel
theorem dP_sum_36 : decode bP_sum 36 = .ok (.getfield 12, 3) := by decide +kernel
theorem dP_sum_39 : decode bP_sum 39 = .ok (.aload_n 0, 1) := by decide +kernel
theorem dP_sum_40 : decode bP_sum 40 = .ok (.getfield 25, 3) := by decide +kernel
theorem dP_sum_43 : decode bP_sum 43 = .ok (.invokevirtual 45, 3) := by decide +kernel
theorem dP_sum_46 : decode bP_sum 46 = .ok (.istore_n 3, 1) := by decide +kernel
theorem dP_sum_47 : decode bP_sum 47 = .ok (.aload_n 0, 1) := by decide +kernel
theorem dP_sum_48 : decode bP_sum 48 = .ok (.dup, 1) := by decide +kernel
theorem dP_sum_49 : decode bP_sum 49 = .ok (.getfield 25, 3) := by decide +kernel
theorem dP_sum_52 : decode bP_sum 52 = .ok (.iconst 1, 1) := by decide +kernel
theorem dP_sum_53 : decode bP_sum 53 = .ok (.iadd, 1) := by decide +kernel
theorem dP_sum_54 : decode bP_sum 54 = .ok (.putfield 25, 3) := by decide +kernel
theorem dP_sum_57 : decode bP_sum 57 = .ok (.aload_n 0, 1) := by decide +kernel
theorem dP_sum_58 : decode bP_sum 58 = .ok (.iload_n 1, 1) := by decide +kernel
theorem dP_sum_59 : decode bP_sum 59 = .ok (.invokevirtual 52, 3) := by decide +kernel
theorem dP_sum_62 : decode bP_sum 62 = .ok (.ifCond .ne 5, 3) := by decide +kernel
theorem dP_sum_65 : decode bP_sum 65 = .ok (.iconst 0, 1) := by decide +kernel
theorem dP_sum_66 : decode bP_sum 66 = .ok (.ireturn, 1) := by decide +kernel
theorem dP_sum_67 : decode bP_sum 67 = .ok (.aload_n 0, 1) := by decide +kernel
theorem dP_sum_68 : decode bP_sum 68 = .ok (.iload_n 3, 1) := by decide +kernel
theorem dP_sum_69 : decode bP_sum 69 = .ok (.iconst 0, 1) := by decide +kernel
theorem dP_sum_70 : decode bP_sum 70 = .ok (.invokevirtual 58, 3) := by decide +kernel
theorem dP_sum_73 : decode bP_sum 73 = .ok (.iinc 2 1, 3) := by decide +kernel
theorem dP_sum_76 : decode bP_sum 76 = .ok (.goto (-64), 3) := by decide +kernel
theorem dP_sum_79 : decode bP_sum 79 = .ok (.iconst 1, 1) := by decide +kernel
theorem dP_sum_80 : decode bP_sum 80 = .ok (.ireturn, 1) := by decide +kernel
theorem dP_term_0 : decode bP_term 0 = .ok (.iload_n 1, 1) := by decide +kernel
theorem dP_term_1 : decode bP_term 1 = .ok (.bipush 12, 2) := by decide +kernel
theorem dP_term_3 : decode bP_term 3 = .ok (.if_icmp .lt 5, 3) := by decide +kernel
theorem dP_term_6 : decode bP_term 6 = .ok (.iconst 0, 1) := by decide +kernel
theorem dP_term_7 : decode bP_term 7 = .ok (.ireturn, 1) := by decide +kernel
theorem dP_term_8 : decode bP_term 8 = .ok (.aload_n 0, 1) := by decide +kernel
theorem dP_term_9 : decode bP_term 9 = .ok (.getfield 12, 3) := by decide +kernel
theorem dP_term_12 : decode bP_term 12 = .ok (.aload_n 0, 1) := by decide +kernel
theorem dP_term_13 : decode bP_term 13 = .ok (.getfield 25, 3) := by decide +kernel
theorem dP_term_16 : decode bP_term 16 = .ok (.invokevirtual 45, 3) := by decide +kernel
theorem dP_term_19 : decode bP_term 19 = .ok (.istore_n 2, 1) := by decide +kernel
theorem dP_term_20 : decode bP_term 20 = .ok (.iload_n 2, 1) := by decide +kernel
theorem dP_term_21 : decode bP_term 21 = .ok (.tableswitch 281 2 40 #[171, 199, 281, 171, 239, 239, 257, 265, 248, 248, 273, 281, 281, 281, 281, 281, 281, 281, 281, 281, 281, 281, 281, 281, 281, 281, 281, 281, 281, 281, 281, 281, 281, 281, 281, 281, 281, 281, 204], 171) := by decide +kernel
theorem dP_term_192 : decode bP_term 192 = .ok (.aload_n 0, 1) := by decide +kernel
theorem dP_term_193 : decode bP_term 193 = .ok (.iload_n 2, 1) := by decide +kernel
theorem dP_term_194 : decode bP_term 194 = .ok (.aload_n 0, 1) := by decide +kernel
theorem dP_term_195 : decode bP_term 195 = .ok (.getfield 12, 3) := by decide +kernel
theorem dP_term_198 : decode bP_term 198 = .ok (.aload_n 0, 1) := by decide +kernel
theorem dP_term_199 : decode bP_term 199 = .ok (.getfield 25, 3) := by decide +kernel
theorem dP_term_202 : decode bP_term 202 = .ok (.invokevirtual 62, 3) := by decide +kernel
theorem dP_term_205 : decode bP_term 205 = .ok (.invokevirtual 58, 3) := by decide +kernel
theorem dP_term_208 : decode bP_term 208 = .ok (.aload_n 0, 1) := by decide +kernel
theorem dP_term_209 : decode bP_term 209 = .ok (.dup, 1) := by decide +kernel
theorem dP_term_210 : decode bP_term 210 = .ok (.getfield 25, 3) := by decide +kernel
theorem dP_term_213 : decode bP_term 213 = .ok (.iconst 1, 1) := by decide +kernel
theorem dP_term_214 : decode bP_term 214 = .ok (.iadd, 1) := by decide +kernel
theorem dP_term_215 : decode bP_term 215 = .ok (.putfield 25, 3) := by decide +kernel
theorem dP_term_218 : decode bP_term 218 = .ok (.iconst 1, 1) := by decide +kernel
theorem dP_term_219 : decode bP_term 219 = .ok (.ireturn, 1) := by decide +kernel
theorem dP_term_220 : decode bP_term 220 = .ok (.aload_n 0, 1) := by decide +kernel
theorem dP_term_221 : decode bP_term 221 = .ok (.invokevirtual 65, 3) := by decide +kernel
theorem dP_term_224 : decode bP_term 224 = .ok (.ireturn, 1) := by decide +kernel
theorem dP_term_225 : decode bP_term 225 = .ok (.aload_n 0, 1) := by decide +kernel
theorem dP_term_226 : decode bP_term 226 = .ok (.dup, 1) := by decide +kernel
theorem dP_term_227 : decode bP_term 227 = .ok (.getfield 25, 3) := by decide +kernel
theorem dP_term_230 : decode bP_term 230 = .ok (.iconst 1, 1) := by decide +kernel
theorem dP_term_231 : decode bP_term 231 = .ok (.iadd, 1) := by decide +kernel
theorem dP_term_232 : decode bP_term 232 = .ok (.putfield 25, 3) := by decide +kernel
theorem dP_term_235 : decode bP_term 235 = .ok (.aload_n 0, 1) := by decide +kernel
theorem dP_term_236 : decode bP_term 236 = .ok (.iload_n 1, 1) := by decide +kernel
theorem dP_term_237 : decode bP_term 237 = .ok (.iconst 1, 1) := by decide +kernel
theorem dP_term_238 : decode bP_term 238 = .ok (.iadd, 1) := by decide +kernel
theorem dP_term_239 : decode bP_term 239 = .ok (.invokevirtual 41, 3) := by decide +kernel
theorem dP_term_242 : decode bP_term 242 = .ok (.ifCond .eq 16, 3) := by decide +kernel
theorem dP_term_245 : decode bP_term 245 = .ok (.aload_n 0, 1) := by decide +kernel
theorem dP_term_246 : decode bP_term 246 = .ok (.bipush 41, 2) := by decide +kernel
theorem dP_term_248 : decode bP_term 248 = .ok (.invokevirtual 69, 3) := by decide +kernel
theorem dP_term_251 : decode bP_term 251 = .ok (.ifCond .eq 7, 3) := by decide +kernel
theorem dP_term_254 : decode bP_term 254 = .ok (.iconst 1, 1) := by decide +kernel
theorem dP_term_255 : decode bP_term 255 = .ok (.goto 4, 3) := by decide +kernel
theorem dP_term_258 : decode bP_term 258 = .ok (.iconst 0, 1) := by decide +kernel
theorem dP_term_259 : decode bP_term 259 = .ok (.ireturn, 1) := by decide +kernel
theorem dP_term_260 : decode bP_term 260 = .ok (.aload_n 0, 1) := by decide +kernel
theorem dP_term_261 : decode bP_term 261 = .ok (.iload_n 2, 1) := by decide +kernel
theorem dP_term_262 : decode bP_term 262 = .ok (.iload_n 1, 1) := by decide +kernel
theorem dP_term_263 : decode bP_term 263 = .ok (.iconst 1, 1) := by decide +kernel
theorem dP_term_264 : decode bP_term 264 = .ok (.iadd, 1) := by decide +kernel
theorem dP_term_265 : decode bP_term 265 = .ok (.invokevirtual 72, 3) := by decide +kernel
theorem dP_term_268 : decode bP_term 268 = .ok (.ireturn, 1) := by decide +kernel
theorem dP_term_269 : decode bP_term 269 = .ok (.aload_n 0, 1) := by decide +kernel
theorem dP_term_270 : decode bP_term 270 = .ok (.iload_n 2, 1) := by decide +kernel
theorem dP_term_271 : decode bP_term 271 = .ok (.iload_n 1, 1) := by decide +kernel
theorem dP_term_272 : decode bP_term 272 = .ok (.iconst 1, 1) := by decide +kernel
theorem dP_term_273 : decode bP_term 273 = .ok (.iadd, 1) := by decide +kernel
theorem dP_term_274 : decode bP_term 274 = .ok (.invokevirtual 76, 3) := by decide +kernel
theorem dP_term_277 : decode bP_term 277 = .ok (.ireturn, 1) := by decide +kernel
theorem dP_term_278 : decode bP_term 278 = .ok (.aload_n 0, 1) := by decide +kernel
theorem dP_term_279 : decode bP_term 279 = .ok (.iload_n 1, 1) := by decide +kernel
theorem dP_term_280 : decode bP_term 280 = .ok (.iconst 1, 1) := by decide +kernel
theorem dP_term_281 : decode bP_term 281 = .ok (.iadd, 1) := by decide +kernel
theorem dP_term_282 : decode bP_term 282 = .ok (.invokevirtual 79, 3) := by decide +kernel
theorem dP_term_285 : decode bP_term 285 = .ok (.ireturn, 1) := by decide +kernel
theorem dP_term_286 : decode bP_term 286 = .ok (.aload_n 0, 1) := by decide +kernel
theorem dP_term_287 : decode bP_term 287 = .ok (.iload_n 1, 1) := by decide +kernel
theorem dP_term_288 : decode bP_term 288 = .ok (.iconst 1, 1) := by decide +kernel
theorem dP_term_289 : decode bP_term 289 = .ok (.iadd, 1) := by decide +kernel
theorem dP_term_290 : decode bP_term 290 = .ok (.invokevirtual 82, 3) := by decide +kernel
theorem dP_term_293 : decode bP_term 293 = .ok (.ireturn, 1) := by decide +kernel
theorem dP_term_294 : decode bP_term 294 = .ok (.aload_n 0, 1) := by decide +kernel
theorem dP_term_295 : decode bP_term 295 = .ok (.iload_n 1, 1) := by decide +kernel
theorem dP_term_296 : decode bP_term 296 = .ok (.iconst 1, 1) := by decide +kernel
theorem dP_term_297 : decode bP_term 297 = .ok (.iadd, 1) := by decide +kernel
theorem dP_term_298 : decode bP_term 298 = .ok (.invokevirtual 85, 3) := by decide +kernel
theorem dP_term_301 : decode bP_term 301 = .ok (.ireturn, 1) := by decide +kernel
theorem dP_term_302 : decode bP_term 302 = .ok (.iconst 0, 1) := by decide +kernel
theorem dP_term_303 : decode bP_term 303 = .ok (.ireturn, 1) := by decide +kernel
theorem dP_letterTerm_0 : decode bP_letterTerm 0 = .ok (.aload_n 0, 1) := by decide +kernel
theorem dP_letterTerm_1 : decode bP_letterTerm 1 = .ok (.aload_n 0, 1) := by decide +kernel
theorem dP_letterTerm_2 : decode bP_letterTerm 2 = .ok (.getfield 12, 3) := by decide +kernel
theorem dP_letterTerm_5 : decode bP_letterTerm 5 = .ok (.aload_n 0, 1) := by decide +kernel
theorem dP_letterTerm_6 : decode bP_letterTerm 6 = .ok (.getfield 25, 3) := by decide +kernel
theorem dP_letterTerm_9 : decode bP_letterTerm 9 = .ok (.invokevirtual 62, 3) := by decide +kernel
theorem dP_letterTerm_12 : decode bP_letterTerm 12 = .ok (.invokevirtual 88, 3) := by decide +kernel
theorem dP_letterTerm_15 : decode bP_letterTerm 15 = .ok (.istore_n 1, 1) := by decide +kernel
theorem dP_letterTerm_16 : decode bP_letterTerm 16 = .ok (.iload_n 1, 1) := by decide +kernel
theorem dP_letterTerm_17 : decode bP_letterTerm 17 = .ok (.iconst (-1), 1) := by decide +kernel
theorem dP_letterTerm_18 : decode bP_letterTerm 18 = .ok (.if_icmp .ne 5, 3) := by decide +kernel
theorem dP_letterTerm_21 : decode bP_letterTerm 21 = .ok (.iconst 0, 1) := by decide +kernel
theorem dP_letterTerm_22 : decode bP_letterTerm 22 = .ok (.ireturn, 1) := by decide +kernel
theorem dP_letterTerm_23 : decode bP_letterTerm 23 = .ok (.aload_n 0, 1) := by decide +kernel
theorem dP_letterTerm_24 : decode bP_letterTerm 24 = .ok (.iconst 3, 1) := by decide +kernel
theorem dP_letterTerm_25 : decode bP_letterTerm 25 = .ok (.iload_n 1, 1) := by decide +kernel
theorem dP_letterTerm_26 : decode bP_letterTerm 26 = .ok (.invokevirtual 58, 3) := by decide +kernel
theorem dP_letterTerm_29 : decode bP_letterTerm 29 = .ok (.aload_n 0, 1) := by decide +kernel
theorem dP_letterTerm_30 : decode bP_letterTerm 30 = .ok (.dup, 1) := by decide +kernel
theorem dP_letterTerm_31 : decode bP_letterTerm 31 = .ok (.getfield 25, 3) := by decide +kernel
theorem dP_letterTerm_34 : decode bP_letterTerm 34 = .ok (.iconst 1, 1) := by decide +kernel
theorem dP_letterTerm_35 : decode bP_letterTerm 35 = .ok (.iadd, 1) := by decide +kernel
theorem dP_letterTerm_36 : decode bP_letterTerm 36 = .ok (.putfield 25, 3) := by decide +kernel
theorem dP_letterTerm_39 : decode bP_letterTerm 39 = .ok (.iconst 1, 1) := by decide +kernel
theorem dP_letterTerm_40 : decode bP_letterTerm 40 = .ok (.ireturn, 1) := by decide +kernel
theorem dP_roundsTerm_0 : decode bP_roundsTerm 0 = .ok (.aload_n 0, 1) := by decide +kernel
theorem dP_roundsTerm_1 : decode bP_roundsTerm 1 = .ok (.dup, 1) := by decide +kernel
theorem dP_roundsTerm_2 : decode bP_roundsTerm 2 = .ok (.getfield 25, 3) := by decide +kernel
theorem dP_roundsTerm_5 : decode bP_roundsTerm 5 = .ok (.iconst 1, 1) := by decide +kernel
theorem dP_roundsTerm_6 : decode bP_roundsTerm 6 = .ok (.iadd, 1) := by decide +kernel
theorem dP_roundsTerm_7 : decode bP_roundsTerm 7 = .ok (.putfield 25, 3) := by decide +kernel
theorem dP_roundsTerm_10 : decode bP_roundsTerm 10 = .ok (.aload_n 0, 1) := by decide +kernel
theorem dP_roundsTerm_11 : decode bP_roundsTerm 11 = .ok (.bipush 40, 2) := by decide +kernel
theorem dP_roundsTerm_13 : decode bP_roundsTerm 13 = .ok (.invokevirtual 69, 3) := by decide +kernel
theorem dP_roundsTerm_16 : decode bP_roundsTerm 16 = .ok (.ifCond .eq 11, 3) := by decide +kernel
theorem dP_roundsTerm_19 : decode bP_roundsTerm 19 = .ok (.aload_n 0, 1) := by decide +kernel
theorem dP_roundsTerm_20 : decode bP_roundsTerm 20 = .ok (.iload_n 2, 1) := by decide +kernel
theorem dP_roundsTerm_21 : decode bP_roundsTerm 21 = .ok (.invokevirtual 41, 3) := by decide +kernel
theorem dP_roundsTerm_24 : decode bP_roundsTerm 24 = .ok (.ifCond .ne 5, 3) := by decide +kernel
theorem dP_roundsTerm_27 : decode bP_roundsTerm 27 = .ok (.iconst 0, 1) := by decide +kernel
theorem dP_roundsTerm_28 : decode bP_roundsTerm 28 = .ok (.ireturn, 1) := by decide +kernel
theorem dP_roundsTerm_29 : decode bP_roundsTerm 29 = .ok (.bipush 30, 2) := by decide +kernel
theorem dP_roundsTerm_31 : decode bP_roundsTerm 31 = .ok (.istore_n 3, 1) := by decide +kernel
theorem dP_roundsTerm_32 : decode bP_roundsTerm 32 = .ok (.aload_n 0, 1) := by decide +kernel
theorem dP_roundsTerm_33 : decode bP_roundsTerm 33 = .ok (.bipush 44, 2) := by decide +kernel
theorem dP_roundsTerm_35 : decode bP_roundsTerm 35 = .ok (.invokevirtual 69, 3) := by decide +kernel
theorem dP_roundsTerm_38 : decode bP_roundsTerm 38 = .ok (.ifCond .eq 25, 3) := by decide +kernel
theorem dP_roundsTerm_41 : decode bP_roundsTerm 41 = .ok (.aload_n 0, 1) := by decide +kernel
theorem dP_roundsTerm_42 : decode bP_roundsTerm 42 = .ok (.getfield 12, 3) := by decide +kernel
theorem dP_roundsTerm_45 : decode bP_roundsTerm 45 = .ok (.aload_n 0, 1) := by decide +kernel
theorem dP_roundsTerm_46 : decode bP_roundsTerm 46 = .ok (.getfield 25, 3) := by decide +kernel
theorem dP_roundsTerm_49 : decode bP_roundsTerm 49 = .ok (.invokevirtual 62, 3) := by decide +kernel
theorem dP_roundsTerm_52 : decode bP_roundsTerm 52 = .ok (.istore_n 3, 1) := by decide +kernel
theorem dP_roundsTerm_53 : decode bP_roundsTerm 53 = .ok (.aload_n 0, 1) := by decide +kernel
theorem dP_roundsTerm_54 : decode bP_roundsTerm 54 = .ok (.iconst 4, 1) := by decide +kernel
theorem dP_roundsTerm_55 : decode bP_roundsTerm 55 = .ok (.invokevirtual 69, 3) := by decide +kernel
theorem dP_roundsTerm_58 : decode bP_roundsTerm 58 = .ok (.ifCond .ne 5, 3) := by decide +kernel
theorem dP_roundsTerm_61 : decode bP_roundsTerm 61 = .ok (.iconst 0, 1) := by decide +kernel
theorem dP_roundsTerm_62 : decode bP_roundsTerm 62 = .ok (.ireturn, 1) := by decide +kernel
theorem dP_roundsTerm_63 : decode bP_roundsTerm 63 = .ok (.aload_n 0, 1) := by decide +kernel
theorem dP_roundsTerm_64 : decode bP_roundsTerm 64 = .ok (.iload_n 1, 1) := by decide +kernel
theorem dP_roundsTerm_65 : decode bP_roundsTerm 65 = .ok (.iload_n 3, 1) := by decide +kernel
theorem dP_roundsTerm_66 : decode bP_roundsTerm 66 = .ok (.invokevirtual 58, 3) := by decide +kernel
theorem dP_roundsTerm_69 : decode bP_roundsTerm 69 = .ok (.aload_n 0, 1) := by decide +kernel
theorem dP_roundsTerm_70 : decode bP_roundsTerm 70 = .ok (.bipush 41, 2) := by decide +kernel
theorem dP_roundsTerm_72 : decode bP_roundsTerm 72 = .ok (.invokevirtual 69, 3) := by decide +kernel
theorem dP_roundsTerm_75 : decode bP_roundsTerm 75 = .ok (.ireturn, 1) := by decide +kernel
theorem dP_plainTerm_0 : decode bP_plainTerm 0 = .ok (.aload_n 0, 1) := by decide +kernel
theorem dP_plainTerm_1 : decode bP_plainTerm 1 = .ok (.dup, 1) := by decide +kernel
theorem dP_plainTerm_2 : decode bP_plainTerm 2 = .ok (.getfield 25, 3) := by decide +kernel
theorem dP_plainTerm_5 : decode bP_plainTerm 5 = .ok (.iconst 1, 1) := by decide +kernel
theorem dP_plainTerm_6 : decode bP_plainTerm 6 = .ok (.iadd, 1) := by decide +kernel
theorem dP_plainTerm_7 : decode bP_plainTerm 7 = .ok (.putfield 25, 3) := by decide +kernel
theorem dP_plainTerm_10 : decode bP_plainTerm 10 = .ok (.aload_n 0, 1) := by decide +kernel
theorem dP_plainTerm_11 : decode bP_plainTerm 11 = .ok (.bipush 40, 2) := by decide +kernel
theorem dP_plainTerm_13 : decode bP_plainTerm 13 = .ok (.invokevirtual 69, 3) := by decide +kernel
theorem dP_plainTerm_16 : decode bP_plainTerm 16 = .ok (.ifCond .eq 11, 3) := by decide +kernel
theorem dP_plainTerm_19 : decode bP_plainTerm 19 = .ok (.aload_n 0, 1) := by decide +kernel
theorem dP_plainTerm_20 : decode bP_plainTerm 20 = .ok (.iload_n 2, 1) := by decide +kernel
theorem dP_plainTerm_21 : decode bP_plainTerm 21 = .ok (.invokevirtual 41, 3) := by decide +kernel
theorem dP_plainTerm_24 : decode bP_plainTerm 24 = .ok (.ifCond .ne 5, 3) := by decide +kernel
theorem dP_plainTerm_27 : decode bP_plainTerm 27 = .ok (.iconst 0, 1) := by decide +kernel
theorem dP_plainTerm_28 : decode bP_plainTerm 28 = .ok (.ireturn, 1) := by decide +kernel
theorem dP_plainTerm_29 : decode bP_plainTerm 29 = .ok (.aload_n 0, 1) := by decide +kernel
theorem dP_plainTerm_30 : decode bP_plainTerm 30 = .ok (.iload_n 1, 1) := by decide +kernel
theorem dP_plainTerm_31 : decode bP_plainTerm 31 = .ok (.iconst 0, 1) := by decide +kernel
theorem dP_plainTerm_32 : decode bP_plainTerm 32 = .ok (.invokevirtual 58, 3) := by decide +kernel
theorem dP_plainTerm_35 : decode bP_plainTerm 35 = .ok (.aload_n 0, 1) := by decide +kernel
theorem dP_plainTerm_36 : decode bP_plainTerm 36 = .ok (.bipush 41, 2) := by decide +kernel
theorem dP_plainTerm_38 : decode bP_plainTerm 38 = .ok (.invokevirtual 69, 3) := by decide +kernel
theorem dP_plainTerm_41 : decode bP_plainTerm 41 = .ok (.ireturn, 1) := by decide +kernel
theorem dP_wayTerm_0 : decode bP_wayTerm 0 = .ok (.aload_n 0, 1) := by decide +kernel
theorem dP_wayTerm_1 : decode bP_wayTerm 1 = .ok (.dup, 1) := by decide +kernel
theorem dP_wayTerm_2 : decode bP_wayTerm 2 = .ok (.getfield 25, 3) := by decide +kernel
theorem dP_wayTerm_5 : decode bP_wayTerm 5 = .ok (.iconst 1, 1) := by decide +kernel
theorem dP_wayTerm_6 : decode bP_wayTerm 6 = .ok (.iadd, 1) := by decide +kernel
theorem dP_wayTerm_7 : decode bP_wayTerm 7 = .ok (.putfield 25, 3) := by decide +kernel
theorem dP_wayTerm_10 : decode bP_wayTerm 10 = .ok (.aload_n 0, 1) := by decide +kernel
theorem dP_wayTerm_11 : decode bP_wayTerm 11 = .ok (.bipush 40, 2) := by decide +kernel
theorem dP_wayTerm_13 : decode bP_wayTerm 13 = .ok (.invokevirtual 69, 3) := by decide +kernel
theorem dP_wayTerm_16 : decode bP_wayTerm 16 = .ok (.ifCond .eq 28, 3) := by decide +kernel
theorem dP_wayTerm_19 : decode bP_wayTerm 19 = .ok (.aload_n 0, 1) := by decide +kernel
theorem dP_wayTerm_20 : decode bP_wayTerm 20 = .ok (.iload_n 1, 1) := by decide +kernel
theorem dP_wayTerm_21 : decode bP_wayTerm 21 = .ok (.invokevirtual 41, 3) := by decide +kernel
theorem dP_wayTerm_24 : decode bP_wayTerm 24 = .ok (.ifCond .eq 20, 3) := by decide +kernel
theorem dP_wayTerm_27 : decode bP_wayTerm 27 = .ok (.aload_n 0, 1) := by decide +kernel
theorem dP_wayTerm_28 : decode bP_wayTerm 28 = .ok (.bipush 44, 2) := by decide +kernel
theorem dP_wayTerm_30 : decode bP_wayTerm 30 = .ok (.invokevirtual 69, 3) := by decide +kernel
theorem dP_wayTerm_33 : decode bP_wayTerm 33 = .ok (.ifCond .eq 11, 3) := by decide +kernel
theorem dP_wayTerm_36 : decode bP_wayTerm 36 = .ok (.aload_n 0, 1) := by decide +kernel
theorem dP_wayTerm_37 : decode bP_wayTerm 37 = .ok (.iload_n 1, 1) := by decide +kernel
theorem dP_wayTerm_38 : decode bP_wayTerm 38 = .ok (.invokevirtual 41, 3) := by decide +kernel
theorem dP_wayTerm_41 : decode bP_wayTerm 41 = .ok (.ifCond .ne 5, 3) := by decide +kernel
theorem dP_wayTerm_44 : decode bP_wayTerm 44 = .ok (.iconst 0, 1) := by decide +kernel
theorem dP_wayTerm_45 : decode bP_wayTerm 45 = .ok (.ireturn, 1) := by decide +kernel
theorem dP_wayTerm_46 : decode bP_wayTerm 46 = .ok (.aload_n 0, 1) := by decide +kernel
theorem dP_wayTerm_47 : decode bP_wayTerm 47 = .ok (.bipush 8, 2) := by decide +kernel
theorem dP_wayTerm_49 : decode bP_wayTerm 49 = .ok (.iconst 0, 1) := by decide +kernel
theorem dP_wayTerm_50 : decode bP_wayTerm 50 = .ok (.invokevirtual 58, 3) := by decide +kernel
theorem dP_wayTerm_53 : decode bP_wayTerm 53 = .ok (.aload_n 0, 1) := by decide +kernel
theorem dP_wayTerm_54 : decode bP_wayTerm 54 = .ok (.bipush 41, 2) := by decide +kernel
theorem dP_wayTerm_56 : decode bP_wayTerm 56 = .ok (.invokevirtual 69, 3) := by decide +kernel
theorem dP_wayTerm_59 : decode bP_wayTerm 59 = .ok (.ireturn, 1) := by decide +kernel
theorem dP_kindTerm_0 : decode bP_kindTerm 0 = .ok (.aload_n 0, 1) := by decide +kernel
theorem dP_kindTerm_1 : decode bP_kindTerm 1 = .ok (.dup, 1) := by decide +kernel
theorem dP_kindTerm_2 : decode bP_kindTerm 2 = .ok (.getfield 25, 3) := by decide +kernel
theorem dP_kindTerm_5 : decode bP_kindTerm 5 = .ok (.iconst 1, 1) := by decide +kernel
theorem dP_kindTerm_6 : decode bP_kindTerm 6 = .ok (.iadd, 1) := by decide +kernel
theorem dP_kindTerm_7 : decode bP_kindTerm 7 = .ok (.putfield 25, 3) := by decide +kernel
theorem dP_kindTerm_10 : decode bP_kindTerm 10 = .ok (.aload_n 0, 1) := by decide +kernel
theorem dP_kindTerm_11 : decode bP_kindTerm 11 = .ok (.bipush 40, 2) := by decide +kernel
theorem dP_kindTerm_13 : decode bP_kindTerm 13 = .ok (.invokevirtual 69, 3) := by decide +kernel
theorem dP_kindTerm_16 : decode bP_kindTerm 16 = .ok (.ifCond .ne 5, 3) := by decide +kernel
theorem dP_kindTerm_19 : decode bP_kindTerm 19 = .ok (.iconst 0, 1) := by decide +kernel
theorem dP_kindTerm_20 : decode bP_kindTerm 20 = .ok (.ireturn, 1) := by decide +kernel
theorem dP_kindTerm_21 : decode bP_kindTerm 21 = .ok (.aload_n 0, 1) := by decide +kernel
theorem dP_kindTerm_22 : decode bP_kindTerm 22 = .ok (.getfield 12, 3) := by decide +kernel
theorem dP_kindTerm_25 : decode bP_kindTerm 25 = .ok (.aload_n 0, 1) := by decide +kernel
theorem dP_kindTerm_26 : decode bP_kindTerm 26 = .ok (.getfield 25, 3) := by decide +kernel
theorem dP_kindTerm_29 : decode bP_kindTerm 29 = .ok (.invokevirtual 62, 3) := by decide +kernel
theorem dP_kindTerm_32 : decode bP_kindTerm 32 = .ok (.istore_n 2, 1) := by decide +kernel
theorem dP_kindTerm_33 : decode bP_kindTerm 33 = .ok (.aload_n 0, 1) := by decide +kernel
theorem dP_kindTerm_34 : decode bP_kindTerm 34 = .ok (.iconst 4, 1) := by decide +kernel
theorem dP_kindTerm_35 : decode bP_kindTerm 35 = .ok (.invokevirtual 69, 3) := by decide +kernel
theorem dP_kindTerm_38 : decode bP_kindTerm 38 = .ok (.ifCond .eq 20, 3) := by decide +kernel
theorem dP_kindTerm_41 : decode bP_kindTerm 41 = .ok (.aload_n 0, 1) := by decide +kernel
theorem dP_kindTerm_42 : decode bP_kindTerm 42 = .ok (.bipush 44, 2) := by decide +kernel
theorem dP_kindTerm_44 : decode bP_kindTerm 44 = .ok (.invokevirtual 69, 3) := by decide +kernel
theorem dP_kindTerm_47 : decode bP_kindTerm 47 = .ok (.ifCond .eq 11, 3) := by decide +kernel
theorem dP_kindTerm_50 : decode bP_kindTerm 50 = .ok (.aload_n 0, 1) := by decide +kernel
theorem dP_kindTerm_51 : decode bP_kindTerm 51 = .ok (.iload_n 1, 1) := by decide +kernel
theorem dP_kindTerm_52 : decode bP_kindTerm 52 = .ok (.invokevirtual 41, 3) := by decide +kernel
theorem dP_kindTerm_55 : decode bP_kindTerm 55 = .ok (.ifCond .ne 5, 3) := by decide +kernel
theorem dP_kindTerm_58 : decode bP_kindTerm 58 = .ok (.iconst 0, 1) := by decide +kernel
theorem dP_kindTerm_59 : decode bP_kindTerm 59 = .ok (.ireturn, 1) := by decide +kernel
theorem dP_kindTerm_60 : decode bP_kindTerm 60 = .ok (.aload_n 0, 1) := by decide +kernel
theorem dP_kindTerm_61 : decode bP_kindTerm 61 = .ok (.bipush 9, 2) := by decide +kernel
theorem dP_kindTerm_63 : decode bP_kindTerm 63 = .ok (.iload_n 2, 1) := by decide +kernel
theorem dP_kindTerm_64 : decode bP_kindTerm 64 = .ok (.invokevirtual 58, 3) := by decide +kernel
theorem dP_kindTerm_67 : decode bP_kindTerm 67 = .ok (.aload_n 0, 1) := by decide +kernel
theorem dP_kindTerm_68 : decode bP_kindTerm 68 = .ok (.bipush 41, 2) := by decide +kernel
theorem dP_kindTerm_70 : decode bP_kindTerm 70 = .ok (.invokevirtual 69, 3) := by decide +kernel
theorem dP_kindTerm_73 : decode bP_kindTerm 73 = .ok (.ireturn, 1) := by decide +kernel
theorem dP_letTerm_0 : decode bP_letTerm 0 = .ok (.aload_n 0, 1) := by decide +kernel
theorem dP_letTerm_1 : decode bP_letTerm 1 = .ok (.dup, 1) := by decide +kernel
theorem dP_letTerm_2 : decode bP_letTerm 2 = .ok (.getfield 25, 3) := by decide +kernel
theorem dP_letTerm_5 : decode bP_letTerm 5 = .ok (.iconst 1, 1) := by decide +kernel
theorem dP_letTerm_6 : decode bP_letTerm 6 = .ok (.iadd, 1) := by decide +kernel
theorem dP_letTerm_7 : decode bP_letTerm 7 = .ok (.putfield 25, 3) := by decide +kernel
theorem dP_letTerm_10 : decode bP_letTerm 10 = .ok (.aload_n 0, 1) := by decide +kernel
theorem dP_letTerm_11 : decode bP_letTerm 11 = .ok (.getfield 12, 3) := by decide +kernel
theorem dP_letTerm_14 : decode bP_letTerm 14 = .ok (.aload_n 0, 1) := by decide +kernel
theorem dP_letTerm_15 : decode bP_letTerm 15 = .ok (.getfield 25, 3) := by decide +kernel
theorem dP_letTerm_18 : decode bP_letTerm 18 = .ok (.invokevirtual 62, 3) := by decide +kernel
theorem dP_letTerm_21 : decode bP_letTerm 21 = .ok (.istore_n 2, 1) := by decide +kernel
theorem dP_letTerm_22 : decode bP_letTerm 22 = .ok (.aload_n 0, 1) := by decide +kernel
theorem dP_letTerm_23 : decode bP_letTerm 23 = .ok (.iconst 3, 1) := by decide +kernel
theorem dP_letTerm_24 : decode bP_letTerm 24 = .ok (.invokevirtual 69, 3) := by decide +kernel
theorem dP_letTerm_27 : decode bP_letTerm 27 = .ok (.ifCond .eq 29, 3) := by decide +kernel
theorem dP_letTerm_30 : decode bP_letTerm 30 = .ok (.aload_n 0, 1) := by decide +kernel
theorem dP_letTerm_31 : decode bP_letTerm 31 = .ok (.bipush 61, 2) := by decide +kernel
theorem dP_letTerm_33 : decode bP_letTerm 33 = .ok (.invokevirtual 69, 3) := by decide +kernel
theorem dP_letTerm_36 : decode bP_letTerm 36 = .ok (.ifCond .eq 20, 3) := by decide +kernel
theorem dP_letTerm_39 : decode bP_letTerm 39 = .ok (.aload_n 0, 1) := by decide +kernel
theorem dP_letTerm_40 : decode bP_letTerm 40 = .ok (.iload_n 1, 1) := by decide +kernel
theorem dP_letTerm_41 : decode bP_letTerm 41 = .ok (.invokevirtual 41, 3) := by decide +kernel
theorem dP_letTerm_44 : decode bP_letTerm 44 = .ok (.ifCond .eq 12, 3) := by decide +kernel
theorem dP_letTerm_47 : decode bP_letTerm 47 = .ok (.aload_n 0, 1) := by decide +kernel
theorem dP_letTerm_48 : decode bP_letTerm 48 = .ok (.bipush 13, 2) := by decide +kernel
theorem dP_letTerm_50 : decode bP_letTerm 50 = .ok (.invokevirtual 69, 3) := by decide +kernel
theorem dP_letTerm_53 : decode bP_letTerm 53 = .ok (.ifCond .ne 5, 3) := by decide +kernel
theorem dP_letTerm_56 : decode bP_letTerm 56 = .ok (.iconst 0, 1) := by decide +kernel
theorem dP_letTerm_57 : decode bP_letTerm 57 = .ok (.ireturn, 1) := by decide +kernel
theorem dP_letTerm_58 : decode bP_letTerm 58 = .ok (.aload_n 0, 1) := by decide +kernel
theorem dP_letTerm_59 : decode bP_letTerm 59 = .ok (.iload_n 2, 1) := by decide +kernel
theorem dP_letTerm_60 : decode bP_letTerm 60 = .ok (.invokevirtual 88, 3) := by decide +kernel
theorem dP_letTerm_63 : decode bP_letTerm 63 = .ok (.istore_n 3, 1) := by decide +kernel
theorem dP_letTerm_64 : decode bP_letTerm 64 = .ok (.aload_n 0, 1) := by decide +kernel
theorem dP_letTerm_65 : decode bP_letTerm 65 = .ok (.bipush 12, 2) := by decide +kernel
theorem dP_letTerm_67 : decode bP_letTerm 67 = .ok (.aload_n 0, 1) := by decide +kernel
theorem dP_letTerm_68 : decode bP_letTerm 68 = .ok (.getfield 29, 3) := by decide +kernel
theorem dP_letTerm_71 : decode bP_letTerm 71 = .ok (.invokevirtual 58, 3) := by decide +kernel
theorem dP_letTerm_74 : decode bP_letTerm 74 = .ok (.aload_n 0, 1) := by decide +kernel
theorem dP_letTerm_75 : decode bP_letTerm 75 = .ok (.iload_n 2, 1) := by decide +kernel
theorem dP_letTerm_76 : decode bP_letTerm 76 = .ok (.aload_n 0, 1) := by decide +kernel
theorem dP_letTerm_77 : decode bP_letTerm 77 = .ok (.getfield 29, 3) := by decide +kernel
theorem dP_letTerm_80 : decode bP_letTerm 80 = .ok (.invokevirtual 91, 3) := by decide +kernel
theorem dP_letTerm_83 : decode bP_letTerm 83 = .ok (.aload_n 0, 1) := by decide +kernel
theorem dP_letTerm_84 : decode bP_letTerm 84 = .ok (.dup, 1) := by decide +kernel
theorem dP_letTerm_85 : decode bP_letTerm 85 = .ok (.getfield 29, 3) := by decide +kernel
theorem dP_letTerm_88 : decode bP_letTerm 88 = .ok (.iconst 1, 1) := by decide +kernel
theorem dP_letTerm_89 : decode bP_letTerm 89 = .ok (.iadd, 1) := by decide +kernel
theorem dP_letTerm_90 : decode bP_letTerm 90 = .ok (.putfield 29, 3) := by decide +kernel
theorem dP_letTerm_93 : decode bP_letTerm 93 = .ok (.aload_n 0, 1) := by decide +kernel
theorem dP_letTerm_94 : decode bP_letTerm 94 = .ok (.iload_n 1, 1) := by decide +kernel
theorem dP_letTerm_95 : decode bP_letTerm 95 = .ok (.invokevirtual 41, 3) := by decide +kernel
theorem dP_letTerm_98 : decode bP_letTerm 98 = .ok (.istore 4, 2) := by decide +kernel
theorem dP_letTerm_100 : decode bP_letTerm 100 = .ok (.aload_n 0, 1) := by decide +kernel
theorem dP_letTerm_101 : decode bP_letTerm 101 = .ok (.dup, 1) := by decide +kernel
theorem dP_letTerm_102 : decode bP_letTerm 102 = .ok (.getfield 29, 3) := by decide +kernel
theorem dP_letTerm_105 : decode bP_letTerm 105 = .ok (.iconst 1, 1) := by decide +kernel
theorem dP_letTerm_106 : decode bP_letTerm 106 = .ok (.isub, 1) := by decide +kernel
theorem dP_letTerm_107 : decode bP_letTerm 107 = .ok (.putfield 29, 3) := by decide +kernel
theorem dP_letTerm_110 : decode bP_letTerm 110 = .ok (.aload_n 0, 1) := by decide +kernel
theorem dP_letTerm_111 : decode bP_letTerm 111 = .ok (.iload_n 2, 1) := by decide +kernel
theorem dP_letTerm_112 : decode bP_letTerm 112 = .ok (.iload_n 3, 1) := by decide +kernel
theorem dP_letTerm_113 : decode bP_letTerm 113 = .ok (.invokevirtual 91, 3) := by decide +kernel
theorem dP_letTerm_116 : decode bP_letTerm 116 = .ok (.iload 4, 2) := by decide +kernel
theorem dP_letTerm_118 : decode bP_letTerm 118 = .ok (.ireturn, 1) := by decide +kernel
theorem dP_slotOf_0 : decode bP_slotOf 0 = .ok (.iload_n 1, 1) := by decide +kernel
theorem dP_slotOf_1 : decode bP_slotOf 1 = .ok (.ifCond .lt 21, 3) := by decide +kernel
theorem dP_slotOf_4 : decode bP_slotOf 4 = .ok (.iload_n 1, 1) := by decide +kernel
theorem dP_slotOf_5 : decode bP_slotOf 5 = .ok (.aload_n 0, 1) := by decide +kernel
theorem dP_slotOf_6 : decode bP_slotOf 6 = .ok (.getfield 21, 3) := by decide +kernel
theorem dP_slotOf_9 : decode bP_slotOf 9 = .ok (.arraylength, 1) := by decide +kernel
theorem dP_slotOf_10 : decode bP_slotOf 10 = .ok (.if_icmp .ge 12, 3) := by decide +kernel
theorem dP_slotOf_13 : decode bP_slotOf 13 = .ok (.aload_n 0, 1) := by decide +kernel
theorem dP_slotOf_14 : decode bP_slotOf 14 = .ok (.getfield 21, 3) := by decide +kernel
theorem dP_slotOf_17 : decode bP_slotOf 17 = .ok (.iload_n 1, 1) := by decide +kernel
theorem dP_slotOf_18 : decode bP_slotOf 18 = .ok (.iaload, 1) := by decide +kernel
theorem dP_slotOf_19 : decode bP_slotOf 19 = .ok (.goto 4, 3) := by decide +kernel
theorem dP_slotOf_22 : decode bP_slotOf 22 = .ok (.iconst (-1), 1) := by decide +kernel
theorem dP_slotOf_23 : decode bP_slotOf 23 = .ok (.ireturn, 1) := by decide +kernel
theorem dP_setSlot_0 : decode bP_setSlot 0 = .ok (.iload_n 1, 1) := by decide +kernel
theorem dP_setSlot_1 : decode bP_setSlot 1 = .ok (.ifCond .lt 19, 3) := by decide +kernel
theorem dP_setSlot_4 : decode bP_setSlot 4 = .ok (.iload_n 1, 1) := by decide +kernel
theorem dP_setSlot_5 : decode bP_setSlot 5 = .ok (.aload_n 0, 1) := by decide +kernel
theorem dP_setSlot_6 : decode bP_setSlot 6 = .ok (.getfield 21, 3) := by decide +kernel
theorem dP_setSlot_9 : decode bP_setSlot 9 = .ok (.arraylength, 1) := by decide +kernel
theorem dP_setSlot_10 : decode bP_setSlot 10 = .ok (.if_icmp .ge 10, 3) := by decide +kernel
theorem dP_setSlot_13 : decode bP_setSlot 13 = .ok (.aload_n 0, 1) := by decide +kernel
theorem dP_setSlot_14 : decode bP_setSlot 14 = .ok (.getfield 21, 3) := by decide +kernel
theorem dP_setSlot_17 : decode bP_setSlot 17 = .ok (.iload_n 1, 1) := by decide +kernel
theorem dP_setSlot_18 : decode bP_setSlot 18 = .ok (.iload_n 2, 1) := by decide +kernel
theorem dP_setSlot_19 : decode bP_setSlot 19 = .ok (.iastore, 1) := by decide +kernel
theorem dP_setSlot_20 : decode bP_setSlot 20 = .ok (.return_, 1) := by decide +kernel
theorem dP_take_0 : decode bP_take 0 = .ok (.aload_n 0, 1) := by decide +kernel
theorem dP_take_1 : decode bP_take 1 = .ok (.getfield 12, 3) := by decide +kernel
theorem dP_take_4 : decode bP_take 4 = .ok (.aload_n 0, 1) := by decide +kernel
theorem dP_take_5 : decode bP_take 5 = .ok (.getfield 25, 3) := by decide +kernel
theorem dP_take_8 : decode bP_take 8 = .ok (.invokevirtual 45, 3) := by decide +kernel
theorem dP_take_11 : decode bP_take 11 = .ok (.iload_n 1, 1) := by decide +kernel
theorem dP_take_12 : decode bP_take 12 = .ok (.if_icmp .eq 5, 3) := by decide +kernel
theorem dP_take_15 : decode bP_take 15 = .ok (.iconst 0, 1) := by decide +kernel
theorem dP_take_16 : decode bP_take 16 = .ok (.ireturn, 1) := by decide +kernel
theorem dP_take_17 : decode bP_take 17 = .ok (.aload_n 0, 1) := by decide +kernel
theorem dP_take_18 : decode bP_take 18 = .ok (.dup, 1) := by decide +kernel
theorem dP_take_19 : decode bP_take 19 = .ok (.getfield 25, 3) := by decide +kernel
theorem dP_take_22 : decode bP_take 22 = .ok (.iconst 1, 1) := by decide +kernel
theorem dP_take_23 : decode bP_take 23 = .ok (.iadd, 1) := by decide +kernel
theorem dP_take_24 : decode bP_take 24 = .ok (.putfield 25, 3) := by decide +kernel
theorem dP_take_27 : decode bP_take 27 = .ok (.iconst 1, 1) := by decide +kernel
theorem dP_take_28 : decode bP_take 28 = .ok (.ireturn, 1) := by decide +kernel
theorem dP_emit_0 : decode bP_emit 0 = .ok (.aload_n 0, 1) := by decide +kernel
theorem dP_emit_1 : decode bP_emit 1 = .ok (.getfield 18, 3) := by decide +kernel
theorem dP_emit_4 : decode bP_emit 4 = .ok (.iload_n 1, 1) := by decide +kernel
theorem dP_emit_5 : decode bP_emit 5 = .ok (.iload_n 2, 1) := by decide +kernel
theorem dP_emit_6 : decode bP_emit 6 = .ok (.aload_n 0, 1) := by decide +kernel
theorem dP_emit_7 : decode bP_emit 7 = .ok (.getfield 12, 3) := by decide +kernel
theorem dP_emit_10 : decode bP_emit 10 = .ok (.aload_n 0, 1) := by decide +kernel
theorem dP_emit_11 : decode bP_emit 11 = .ok (.getfield 25, 3) := by decide +kernel
theorem dP_emit_14 : decode bP_emit 14 = .ok (.invokevirtual 49, 3) := by decide +kernel
theorem dP_emit_17 : decode bP_emit 17 = .ok (.invokevirtual 94, 3) := by decide +kernel
theorem dP_emit_20 : decode bP_emit 20 = .ok (.return_, 1) := by decide +kernel
