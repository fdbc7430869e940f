theorem dM_bind_36 : decode bM_bind 36 = .ok (.iload_n 2, 1) := by decide +kernel
theorem dM_bind_37 : decode bM_bind 37 = .ok (.iadd, 1) := by decide +kernel
theorem dM_bind_38 : decode bM_bind 38 = .ok (.aload_n 0, 1) := by decide +kernel
theorem dM_bind_39 : decode bM_bind 39 = .ok (.getfield 49, 3) := by decide +kernel
theorem dM_bind_42 : decode bM_bind 42 = .ok (.bipush 30, 2) := by decide +kernel
theorem dM_bind_44 : decode bM_bind 44 = .ok (.aload_n 0, 1) := by decide +kernel
theorem dM_bind_45 : decode bM_bind 45 = .ok (.getfield 183, 3) := by decide +kernel
theorem dM_bind_48 : decode bM_bind 48 = .ok (.imul, 1) := by decide +kernel
theorem dM_bind_49 : decode bM_bind 49 = .ok (.iload_n 2, 1) := by decide +kernel
theorem dM_bind_50 : decode bM_bind 50 = .ok (.iadd, 1) := by decide +kernel
theorem dM_bind_51 : decode bM_bind 51 = .ok (.iaload, 1) := by decide +kernel
theorem dM_bind_52 : decode bM_bind 52 = .ok (.iastore, 1) := by decide +kernel
theorem dM_bind_53 : decode bM_bind 53 = .ok (.iinc 2 1, 3) := by decide +kernel
theorem dM_bind_56 : decode bM_bind 56 = .ok (.goto (-44), 3) := by decide +kernel
theorem dM_bind_59 : decode bM_bind 59 = .ok (.aload_n 0, 1) := by decide +kernel
theorem dM_bind_60 : decode bM_bind 60 = .ok (.getfield 58, 3) := by decide +kernel
theorem dM_bind_63 : decode bM_bind 63 = .ok (.aload_n 0, 1) := by decide +kernel
theorem dM_bind_64 : decode bM_bind 64 = .ok (.getfield 209, 3) := by decide +kernel
theorem dM_bind_67 : decode bM_bind 67 = .ok (.aload_n 0, 1) := by decide +kernel
theorem dM_bind_68 : decode bM_bind 68 = .ok (.getfield 52, 3) := by decide +kernel
theorem dM_bind_71 : decode bM_bind 71 = .ok (.aload_n 0, 1) := by decide +kernel
theorem dM_bind_72 : decode bM_bind 72 = .ok (.getfield 183, 3) := by decide +kernel
theorem dM_bind_75 : decode bM_bind 75 = .ok (.iaload, 1) := by decide +kernel
theorem dM_bind_76 : decode bM_bind 76 = .ok (.iastore, 1) := by decide +kernel
theorem dM_bind_77 : decode bM_bind 77 = .ok (.aload_n 0, 1) := by decide +kernel
theorem dM_bind_78 : decode bM_bind 78 = .ok (.getfield 61, 3) := by decide +kernel
theorem dM_bind_81 : decode bM_bind 81 = .ok (.aload_n 0, 1) := by decide +kernel
theorem dM_bind_82 : decode bM_bind 82 = .ok (.getfield 209, 3) := by decide +kernel
theorem dM_bind_85 : decode bM_bind 85 = .ok (.iload_n 1, 1) := by decide +kernel
theorem dM_bind_86 : decode bM_bind 86 = .ok (.iastore, 1) := by decide +kernel
theorem dM_bind_87 : decode bM_bind 87 = .ok (.aload_n 0, 1) := by decide +kernel
theorem dM_bind_88 : decode bM_bind 88 = .ok (.dup, 1) := by decide +kernel
theorem dM_bind_89 : decode bM_bind 89 = .ok (.getfield 209, 3) := by decide +kernel
theorem dM_bind_92 : decode bM_bind 92 = .ok (.iconst 1, 1) := by decide +kernel
theorem dM_bind_93 : decode bM_bind 93 = .ok (.iadd, 1) := by decide +kernel
theorem dM_bind_94 : decode bM_bind 94 = .ok (.putfield 209, 3) := by decide +kernel
theorem dM_bind_97 : decode bM_bind 97 = .ok (.return_, 1) := by decide +kernel
theorem dM_recall_0 : decode bM_recall 0 = .ok (.aload_n 0, 1) := by decide +kernel
theorem dM_recall_1 : decode bM_recall 1 = .ok (.getfield 209, 3) := by decide +kernel
theorem dM_recall_4 : decode bM_recall 4 = .ok (.iconst 1, 1) := by decide +kernel
theorem dM_recall_5 : decode bM_recall 5 = .ok (.isub, 1) := by decide +kernel
theorem dM_recall_6 : decode bM_recall 6 = .ok (.istore_n 2, 1) := by decide +kernel
theorem dM_recall_7 : decode bM_recall 7 = .ok (.aload_n 0, 1) := by decide +kernel
theorem dM_recall_8 : decode bM_recall 8 = .ok (.getfield 61, 3) := by decide +kernel
theorem dM_recall_11 : decode bM_recall 11 = .ok (.iload_n 2, 1) := by decide +kernel
theorem dM_recall_12 : decode bM_recall 12 = .ok (.iaload, 1) := by decide +kernel
theorem dM_recall_13 : decode bM_recall 13 = .ok (.iload_n 1, 1) := by decide +kernel
theorem dM_recall_14 : decode bM_recall 14 = .ok (.if_icmp .eq 9, 3) := by decide +kernel
theorem dM_recall_17 : decode bM_recall 17 = .ok (.iinc 2 (-1), 3) := by decide +kernel
theorem dM_recall_20 : decode bM_recall 20 = .ok (.goto (-13), 3) := by decide +kernel
theorem dM_recall_23 : decode bM_recall 23 = .ok (.iconst 0, 1) := by decide +kernel
theorem dM_recall_24 : decode bM_recall 24 = .ok (.istore_n 3, 1) := by decide +kernel
theorem dM_recall_25 : decode bM_recall 25 = .ok (.iload_n 3, 1) := by decide +kernel
theorem dM_recall_26 : decode bM_recall 26 = .ok (.aload_n 0, 1) := by decide +kernel
theorem dM_recall_27 : decode bM_recall 27 = .ok (.getfield 58, 3) := by decide +kernel
theorem dM_recall_30 : decode bM_recall 30 = .ok (.iload_n 2, 1) := by decide +kernel
theorem dM_recall_31 : decode bM_recall 31 = .ok (.iaload, 1) := by decide +kernel
theorem dM_recall_32 : decode bM_recall 32 = .ok (.if_icmp .ge 24, 3) := by decide +kernel
theorem dM_recall_35 : decode bM_recall 35 = .ok (.aload_n 0, 1) := by decide +kernel
theorem dM_recall_36 : decode bM_recall 36 = .ok (.aload_n 0, 1) := by decide +kernel
theorem dM_recall_37 : decode bM_recall 37 = .ok (.getfield 55, 3) := by decide +kernel
theorem dM_recall_40 : decode bM_recall 40 = .ok (.bipush 30, 2) := by decide +kernel
theorem dM_recall_42 : decode bM_recall 42 = .ok (.iload_n 2, 1) := by decide +kernel
theorem dM_recall_43 : decode bM_recall 43 = .ok (.imul, 1) := by decide +kernel
theorem dM_recall_44 : decode bM_recall 44 = .ok (.iload_n 3, 1) := by decide +kernel
theorem dM_recall_45 : decode bM_recall 45 = .ok (.iadd, 1) := by decide +kernel
theorem dM_recall_46 : decode bM_recall 46 = .ok (.iaload, 1) := by decide +kernel
theorem dM_recall_47 : decode bM_recall 47 = .ok (.invokevirtual 196, 3) := by decide +kernel
theorem dM_recall_50 : decode bM_recall 50 = .ok (.iinc 3 1, 3) := by decide +kernel
theorem dM_recall_53 : decode bM_recall 53 = .ok (.goto (-28), 3) := by decide +kernel
theorem dM_recall_56 : decode bM_recall 56 = .ok (.return_, 1) := by decide +kernel
theorem dM_make_0 : decode bM_make 0 = .ok (.aload_n 0, 1) := by decide +kernel
theorem dM_make_1 : decode bM_make 1 = .ok (.invokevirtual 193, 3) := by decide +kernel
theorem dM_make_4 : decode bM_make 4 = .ok (.iload_n 1, 1) := by decide +kernel
theorem dM_make_5 : decode bM_make 5 = .ok (.iconst 2, 1) := by decide +kernel
theorem dM_make_6 : decode bM_make 6 = .ok (.if_icmp .ne 22, 3) := by decide +kernel
theorem dM_make_9 : decode bM_make 9 = .ok (.aload_n 0, 1) := by decide +kernel
theorem dM_make_10 : decode bM_make 10 = .ok (.aload_n 0, 1) := by decide +kernel
theorem dM_make_11 : decode bM_make 11 = .ok (.iload_n 2, 1) := by decide +kernel
theorem dM_make_12 : decode bM_make 12 = .ok (.bipush 10, 2) := by decide +kernel
theorem dM_make_14 : decode bM_make 14 = .ok (.idiv, 1) := by decide +kernel
theorem dM_make_15 : decode bM_make 15 = .ok (.iload_n 2, 1) := by decide +kernel
theorem dM_make_16 : decode bM_make 16 = .ok (.bipush 10, 2) := by decide +kernel
theorem dM_make_18 : decode bM_make 18 = .ok (.irem, 1) := by decide +kernel
theorem dM_make_19 : decode bM_make 19 = .ok (.invokevirtual 89, 3) := by decide +kernel
theorem dM_make_22 : decode bM_make 22 = .ok (.invokevirtual 196, 3) := by decide +kernel
theorem dM_make_25 : decode bM_make 25 = .ok (.goto 37, 3) := by decide +kernel
theorem dM_make_28 : decode bM_make 28 = .ok (.iload_n 1, 1) := by decide +kernel
theorem dM_make_29 : decode bM_make 29 = .ok (.iconst 3, 1) := by decide +kernel
theorem dM_make_30 : decode bM_make 30 = .ok (.if_icmp .ne 11, 3) := by decide +kernel
theorem dM_make_33 : decode bM_make 33 = .ok (.aload_n 0, 1) := by decide +kernel
theorem dM_make_34 : decode bM_make 34 = .ok (.iload_n 2, 1) := by decide +kernel
theorem dM_make_35 : decode bM_make 35 = .ok (.invokevirtual 212, 3) := by decide +kernel
theorem dM_make_38 : decode bM_make 38 = .ok (.goto 24, 3) := by decide +kernel
theorem dM_make_41 : decode bM_make 41 = .ok (.iconst 0, 1) := by decide +kernel
theorem dM_make_42 : decode bM_make 42 = .ok (.istore_n 3, 1) := by decide +kernel
theorem dM_make_43 : decode bM_make 43 = .ok (.iload_n 3, 1) := by decide +kernel
theorem dM_make_44 : decode bM_make 44 = .ok (.aload_n 0, 1) := by decide +kernel
theorem dM_make_45 : decode bM_make 45 = .ok (.getfield 86, 3) := by decide +kernel
theorem dM_make_48 : decode bM_make 48 = .ok (.if_icmp .ge 14, 3) := by decide +kernel
theorem dM_make_51 : decode bM_make 51 = .ok (.aload_n 0, 1) := by decide +kernel
theorem dM_make_52 : decode bM_make 52 = .ok (.iload_n 3, 1) := by decide +kernel
theorem dM_make_53 : decode bM_make 53 = .ok (.invokevirtual 196, 3) := by decide +kernel
theorem dM_make_56 : decode bM_make 56 = .ok (.iinc 3 1, 3) := by decide +kernel
theorem dM_make_59 : decode bM_make 59 = .ok (.goto (-16), 3) := by decide +kernel
theorem dM_make_62 : decode bM_make 62 = .ok (.aload_n 0, 1) := by decide +kernel
theorem dM_make_63 : decode bM_make 63 = .ok (.dup, 1) := by decide +kernel
theorem dM_make_64 : decode bM_make 64 = .ok (.getfield 190, 3) := by decide +kernel
theorem dM_make_67 : decode bM_make 67 = .ok (.aload_n 0, 1) := by decide +kernel
theorem dM_make_68 : decode bM_make 68 = .ok (.getfield 52, 3) := by decide +kernel
theorem dM_make_71 : decode bM_make 71 = .ok (.aload_n 0, 1) := by decide +kernel
theorem dM_make_72 : decode bM_make 72 = .ok (.getfield 183, 3) := by decide +kernel
theorem dM_make_75 : decode bM_make 75 = .ok (.iconst 1, 1) := by decide +kernel
theorem dM_make_76 : decode bM_make 76 = .ok (.isub, 1) := by decide +kernel
theorem dM_make_77 : decode bM_make 77 = .ok (.iaload, 1) := by decide +kernel
theorem dM_make_78 : decode bM_make 78 = .ok (.iadd, 1) := by decide +kernel
theorem dM_make_79 : decode bM_make 79 = .ok (.putfield 190, 3) := by decide +kernel
theorem dM_make_82 : decode bM_make 82 = .ok (.return_, 1) := by decide +kernel
theorem dM_does_0 : decode bM_does 0 = .ok (.iload_n 1, 1) := by decide +kernel
theorem dM_does_1 : decode bM_does 1 = .ok (.tableswitch 271 2 45 #[191, 191, 271, 191, 208, 208, 243, 271, 271, 271, 271, 271, 271, 271, 271, 271, 271, 271, 250, 258, 271, 271, 271, 271, 271, 271, 271, 271, 271, 271, 271, 271, 271, 271, 271, 271, 200, 271, 271, 271, 271, 200, 271, 200], 191) := by decide +kernel
theorem dM_does_192 : decode bM_does 192 = .ok (.aload_n 0, 1) := by decide +kernel
theorem dM_does_193 : decode bM_does 193 = .ok (.iload_n 1, 1) := by decide +kernel
theorem dM_does_194 : decode bM_does 194 = .ok (.iload_n 2, 1) := by decide +kernel
theorem dM_does_195 : decode bM_does 195 = .ok (.invokevirtual 215, 3) := by decide +kernel
theorem dM_does_198 : decode bM_does 198 = .ok (.goto 80, 3) := by decide +kernel
theorem dM_does_201 : decode bM_does 201 = .ok (.aload_n 0, 1) := by decide +kernel
theorem dM_does_202 : decode bM_does 202 = .ok (.iload_n 1, 1) := by decide +kernel
theorem dM_does_203 : decode bM_does 203 = .ok (.invokevirtual 218, 3) := by decide +kernel
theorem dM_does_206 : decode bM_does 206 = .ok (.goto 72, 3) := by decide +kernel
theorem dM_does_209 : decode bM_does 209 = .ok (.aload_n 0, 1) := by decide +kernel
theorem dM_does_210 : decode bM_does 210 = .ok (.iload_n 1, 1) := by decide +kernel
theorem dM_does_211 : decode bM_does 211 = .ok (.bipush 7, 2) := by decide +kernel
theorem dM_does_213 : decode bM_does 213 = .ok (.if_icmp .ne 7, 3) := by decide +kernel
theorem dM_does_216 : decode bM_does 216 = .ok (.iconst 1, 1) := by decide +kernel
theorem dM_does_217 : decode bM_does 217 = .ok (.goto 4, 3) := by decide +kernel
theorem dM_does_220 : decode bM_does 220 = .ok (.iconst 0, 1) := by decide +kernel
theorem dM_does_221 : decode bM_does 221 = .ok (.iload_n 2, 1) := by decide +kernel
theorem dM_does_222 : decode bM_does 222 = .ok (.iconst (-1), 1) := by decide +kernel
theorem dM_does_223 : decode bM_does 223 = .ok (.if_icmp .ne 9, 3) := by decide +kernel
theorem dM_does_226 : decode bM_does 226 = .ok (.sipush 1000, 3) := by decide +kernel
theorem dM_does_229 : decode bM_does 229 = .ok (.goto 4, 3) := by decide +kernel
theorem dM_does_232 : decode bM_does 232 = .ok (.iload_n 2, 1) := by decide +kernel
theorem dM_does_233 : decode bM_does 233 = .ok (.invokevirtual 205, 3) := by decide +kernel
theorem dM_does_236 : decode bM_does 236 = .ok (.aload_n 0, 1) := by decide +kernel
theorem dM_does_237 : decode bM_does 237 = .ok (.iconst 1, 1) := by decide +kernel
theorem dM_does_238 : decode bM_does 238 = .ok (.invokevirtual 199, 3) := by decide +kernel
theorem dM_does_241 : decode bM_does 241 = .ok (.goto 37, 3) := by decide +kernel
theorem dM_does_244 : decode bM_does 244 = .ok (.aload_n 0, 1) := by decide +kernel
theorem dM_does_245 : decode bM_does 245 = .ok (.invokevirtual 221, 3) := by decide +kernel
theorem dM_does_248 : decode bM_does 248 = .ok (.goto 30, 3) := by decide +kernel
theorem dM_does_251 : decode bM_does 251 = .ok (.aload_n 0, 1) := by decide +kernel
theorem dM_does_252 : decode bM_does 252 = .ok (.iload_n 2, 1) := by decide +kernel
theorem dM_does_253 : decode bM_does 253 = .ok (.invokevirtual 224, 3) := by decide +kernel
theorem dM_does_256 : decode bM_does 256 = .ok (.goto 22, 3) := by decide +kernel
theorem dM_does_259 : decode bM_does 259 = .ok (.aload_n 0, 1) := by decide +kernel
theorem dM_does_260 : decode bM_does 260 = .ok (.dup, 1) := by decide +kernel
theorem dM_does_261 : decode bM_does 261 = .ok (.getfield 209, 3) := by decide +kernel
theorem dM_does_264 : decode bM_does 264 = .ok (.iconst 1, 1) := by decide +kernel
theorem dM_does_265 : decode bM_does 265 = .ok (.isub, 1) := by decide +kernel
theorem dM_does_266 : decode bM_does 266 = .ok (.putfield 209, 3) := by decide +kernel
theorem dM_does_269 : decode bM_does 269 = .ok (.goto 9, 3) := by decide +kernel
theorem dM_does_272 : decode bM_does 272 = .ok (.aload_n 0, 1) := by decide +kernel
theorem dM_does_273 : decode bM_does 273 = .ok (.iload_n 1, 1) := by decide +kernel
theorem dM_does_274 : decode bM_does 274 = .ok (.iload_n 2, 1) := by decide +kernel
theorem dM_does_275 : decode bM_does 275 = .ok (.invokevirtual 227, 3) := by decide +kernel
theorem dM_does_278 : decode bM_does 278 = .ok (.return_, 1) := by decide +kernel
theorem dM_ask_0 : decode bM_ask 0 = .ok (.aload_n 0, 1) := by decide +kernel
theorem dM_ask_1 : decode bM_ask 1 = .ok (.iconst 0, 1) := by decide +kernel
theorem dM_ask_2 : decode bM_ask 2 = .ok (.putfield 83, 3) := by decide +kernel
theorem dM_ask_5 : decode bM_ask 5 = .ok (.aload_n 0, 1) := by decide +kernel
theorem dM_ask_6 : decode bM_ask 6 = .ok (.invokevirtual 230, 3) := by decide +kernel
theorem dM_ask_9 : decode bM_ask 9 = .ok (.aload_n 0, 1) := by decide +kernel
theorem dM_ask_10 : decode bM_ask 10 = .ok (.iconst 0, 1) := by decide +kernel
theorem dM_ask_11 : decode bM_ask 11 = .ok (.putfield 101, 3) := by decide +kernel
theorem dM_ask_14 : decode bM_ask 14 = .ok (.aload_n 0, 1) := by decide +kernel
theorem dM_ask_15 : decode bM_ask 15 = .ok (.getfield 147, 3) := by decide +kernel
theorem dM_ask_18 : decode bM_ask 18 = .ok (.iconst (-1), 1) := by decide +kernel
theorem dM_ask_19 : decode bM_ask 19 = .ok (.if_icmp .eq 10, 3) := by decide +kernel
theorem dM_ask_22 : decode bM_ask 22 = .ok (.iconst (-1), 1) := by decide +kernel
theorem dM_ask_23 : decode bM_ask 23 = .ok (.aload_n 0, 1) := by decide +kernel
theorem dM_ask_24 : decode bM_ask 24 = .ok (.getfield 147, 3) := by decide +kernel
theorem dM_ask_27 : decode bM_ask 27 = .ok (.isub, 1) := by decide +kernel
theorem dM_ask_28 : decode bM_ask 28 = .ok (.ireturn, 1) := by decide +kernel
theorem dM_ask_29 : decode bM_ask 29 = .ok (.iconst 0, 1) := by decide +kernel
theorem dM_ask_30 : decode bM_ask 30 = .ok (.istore_n 1, 1) := by decide +kernel
theorem dM_ask_31 : decode bM_ask 31 = .ok (.iload_n 1, 1) := by decide +kernel
theorem dM_ask_32 : decode bM_ask 32 = .ok (.aload_n 0, 1) := by decide +kernel
theorem dM_ask_33 : decode bM_ask 33 = .ok (.getfield 159, 3) := by decide +kernel
theorem dM_ask_36 : decode bM_ask 36 = .ok (.if_icmp .ge 68, 3) := by decide +kernel
theorem dM_ask_39 : decode bM_ask 39 = .ok (.aload_n 0, 1) := by decide +kernel
theorem dM_ask_40 : decode bM_ask 40 = .ok (.getfield 40, 3) := by decide +kernel
theorem dM_ask_43 : decode bM_ask 43 = .ok (.iload_n 1, 1) := by decide +kernel
theorem dM_ask_44 : decode bM_ask 44 = .ok (.iaload, 1) := by decide +kernel
theorem dM_ask_45 : decode bM_ask 45 = .ok (.iconst 2, 1) := by decide +kernel
theorem dM_ask_46 : decode bM_ask 46 = .ok (.if_icmp .ne 52, 3) := by decide +kernel
theorem dM_ask_49 : decode bM_ask 49 = .ok (.aload_n 0, 1) := by decide +kernel
theorem dM_ask_50 : decode bM_ask 50 = .ok (.aload_n 0, 1) := by decide +kernel
theorem dM_ask_51 : decode bM_ask 51 = .ok (.getfield 43, 3) := by decide +kernel
theorem dM_ask_54 : decode bM_ask 54 = .ok (.iload_n 1, 1) := by decide +kernel
theorem dM_ask_55 : decode bM_ask 55 = .ok (.iaload, 1) := by decide +kernel
theorem dM_ask_56 : decode bM_ask 56 = .ok (.bipush 10, 2) := by decide +kernel
theorem dM_ask_58 : decode bM_ask 58 = .ok (.idiv, 1) := by decide +kernel
theorem dM_ask_59 : decode bM_ask 59 = .ok (.aload_n 0, 1) := by decide +kernel
theorem dM_ask_60 : decode bM_ask 60 = .ok (.getfield 43, 3) := by decide +kernel
theorem dM_ask_63 : decode bM_ask 63 = .ok (.iload_n 1, 1) := by decide +kernel
theorem dM_ask_64 : decode bM_ask 64 = .ok (.iaload, 1) := by decide +kernel
theorem dM_ask_65 : decode bM_ask 65 = .ok (.bipush 10, 2) := by decide +kernel
theorem dM_ask_67 : decode bM_ask 67 = .ok (.irem, 1) := by decide +kernel
theorem dM_ask_68 : decode bM_ask 68 = .ok (.invokevirtual 89, 3) := by decide +kernel
theorem dM_ask_71 : decode bM_ask 71 = .ok (.iconst (-1), 1) := by decide +kernel
theorem dM_ask_72 : decode bM_ask 72 = .ok (.if_icmp .eq 6, 3) := by decide +kernel
theorem dM_ask_75 : decode bM_ask 75 = .ok (.goto 23, 3) := by decide +kernel
theorem dM_ask_78 : decode bM_ask 78 = .ok (.aload_n 0, 1) := by decide +kernel
theorem dM_ask_79 : decode bM_ask 79 = .ok (.aload_n 0, 1) := by decide +kernel
theorem dM_ask_80 : decode bM_ask 80 = .ok (.getfield 43, 3) := by decide +kernel
theorem dM_ask_83 : decode bM_ask 83 = .ok (.iload_n 1, 1) := by decide +kernel
theorem dM_ask_84 : decode bM_ask 84 = .ok (.iaload, 1) := by decide +kernel
theorem dM_ask_85 : decode bM_ask 85 = .ok (.putfield 73, 3) := by decide +kernel
theorem dM_ask_88 : decode bM_ask 88 = .ok (.bipush (-101), 2) := by decide +kernel
theorem dM_ask_90 : decode bM_ask 90 = .ok (.aload_n 0, 1) := by decide +kernel
theorem dM_ask_91 : decode bM_ask 91 = .ok (.getfield 46, 3) := by decide +kernel
theorem dM_ask_94 : decode bM_ask 94 = .ok (.iload_n 1, 1) := by decide +kernel
theorem dM_ask_95 : decode bM_ask 95 = .ok (.iaload, 1) := by decide +kernel
theorem dM_ask_96 : decode bM_ask 96 = .ok (.isub, 1) := by decide +kernel
theorem dM_ask_97 : decode bM_ask 97 = .ok (.ireturn, 1) := by decide +kernel
theorem dM_ask_98 : decode bM_ask 98 = .ok (.iinc 1 1, 3) := by decide +kernel
theorem dM_ask_101 : decode bM_ask 101 = .ok (.goto (-70), 3) := by decide +kernel
theorem dM_ask_104 : decode bM_ask 104 = .ok (.aload_n 0, 1) := by decide +kernel
theorem dM_ask_105 : decode bM_ask 105 = .ok (.iconst 0, 1) := by decide +kernel
theorem dM_ask_106 : decode bM_ask 106 = .ok (.putfield 183, 3) := by decide +kernel
theorem dM_ask_109 : decode bM_ask 109 = .ok (.aload_n 0, 1) := by decide +kernel
theorem dM_ask_110 : decode bM_ask 110 = .ok (.iconst 0, 1) := by decide +kernel
theorem dM_ask_111 : decode bM_ask 111 = .ok (.putfield 209, 3) := by decide +kernel
theorem dM_ask_114 : decode bM_ask 114 = .ok (.aload_n 0, 1) := by decide +kernel
theorem dM_ask_115 : decode bM_ask 115 = .ok (.iconst 0, 1) := by decide +kernel
theorem dM_ask_116 : decode bM_ask 116 = .ok (.putfield 190, 3) := by decide +kernel
theorem dM_ask_119 : decode bM_ask 119 = .ok (.iconst 0, 1) := by decide +kernel
theorem dM_ask_120 : decode bM_ask 120 = .ok (.istore_n 1, 1) := by decide +kernel
theorem dM_ask_121 : decode bM_ask 121 = .ok (.iload_n 1, 1) := by decide +kernel
theorem dM_ask_122 : decode bM_ask 122 = .ok (.aload_n 0, 1) := by decide +kernel
theorem dM_ask_123 : decode bM_ask 123 = .ok (.getfield 159, 3) := by decide +kernel
theorem dM_ask_126 : decode bM_ask 126 = .ok (.if_icmp .ge 25, 3) := by decide +kernel
theorem dM_ask_129 : decode bM_ask 129 = .ok (.aload_n 0, 1) := by decide +kernel
theorem dM_ask_130 : decode bM_ask 130 = .ok (.aload_n 0, 1) := by decide +kernel
theorem dM_ask_131 : decode bM_ask 131 = .ok (.getfield 40, 3) := by decide +kernel
theorem dM_ask_134 : decode bM_ask 134 = .ok (.iload_n 1, 1) := by decide +kernel
theorem dM_ask_135 : decode bM_ask 135 = .ok (.iaload, 1) := by decide +kernel
theorem dM_ask_136 : decode bM_ask 136 = .ok (.aload_n 0, 1) := by decide +kernel
theorem dM_ask_137 : decode bM_ask 137 = .ok (.getfield 43, 3) := by decide +kernel
theorem dM_ask_140 : decode bM_ask 140 = .ok (.iload_n 1, 1) := by decide +kernel
theorem dM_ask_141 : decode bM_ask 141 = .ok (.iaload, 1) := by decide +kernel
theorem dM_ask_142 : decode bM_ask 142 = .ok (.invokevirtual 233, 3) := by decide +kernel
theorem dM_ask_145 : decode bM_ask 145 = .ok (.iinc 1 1, 3) := by decide +kernel
theorem dM_ask_148 : decode bM_ask 148 = .ok (.goto (-27), 3) := by decide +kernel
theorem dM_ask_151 : decode bM_ask 151 = .ok (.aload_n 0, 1) := by decide +kernel
theorem dM_ask_152 : decode bM_ask 152 = .ok (.aload_n 0, 1) := by decide +kernel
theorem dM_ask_153 : decode bM_ask 153 = .ok (.getfield 190, 3) := by decide +kernel
theorem dM_ask_156 : decode bM_ask 156 = .ok (.putfield 236, 3) := by decide +kernel
theorem dM_ask_159 : decode bM_ask 159 = .ok (.aload_n 0, 1) := by decide +kernel
theorem dM_ask_160 : decode bM_ask 160 = .ok (.aload_n 0, 1) := by decide +kernel
theorem dM_ask_161 : decode bM_ask 161 = .ok (.getfield 52, 3) := by decide +kernel
theorem dM_ask_164 : decode bM_ask 164 = .ok (.iconst 0, 1) := by decide +kernel
theorem dM_ask_165 : decode bM_ask 165 = .ok (.iaload, 1) := by decide +kernel
theorem dM_ask_166 : decode bM_ask 166 = .ok (.putfield 239, 3) := by decide +kernel
theorem dM_ask_169 : decode bM_ask 169 = .ok (.iconst 0, 1) := by decide +kernel
theorem dM_ask_170 : decode bM_ask 170 = .ok (.istore_n 1, 1) := by decide +kernel
theorem dM_ask_171 : decode bM_ask 171 = .ok (.iload_n 1, 1) := by decide +kernel
theorem dM_ask_172 : decode bM_ask 172 = .ok (.aload_n 0, 1) := by decide +kernel
theorem dM_ask_173 : decode bM_ask 173 = .ok (.getfield 239, 3) := by decide +kernel
theorem dM_ask_176 : decode bM_ask 176 = .ok (.if_icmp .ge 21, 3) := by decide +kernel
theorem dM_ask_179 : decode bM_ask 179 = .ok (.aload_n 0, 1) := by decide +kernel
theorem dM_ask_180 : decode bM_ask 180 = .ok (.getfield 64, 3) := by decide +kernel
theorem dM_ask_183 : decode bM_ask 183 = .ok (.iload_n 1, 1) := by decide +kernel
theorem dM_ask_184 : decode bM_ask 184 = .ok (.aload_n 0, 1) := by decide +kernel
theorem dM_ask_185 : decode bM_ask 185 = .ok (.getfield 49, 3) := by decide +kernel
theorem dM_ask_188 : decode bM_ask 188 = .ok (.iload_n 1, 1) := by decide +kernel
theorem dM_ask_189 : decode bM_ask 189 = .ok (.iaload, 1) := by decide +kernel
theorem dM_ask_190 : decode bM_ask 190 = .ok (.iastore, 1) := by decide +kernel
theorem dM_ask_191 : decode bM_ask 191 = .ok (.iinc 1 1, 3) := by decide +kernel
theorem dM_ask_194 : decode bM_ask 194 = .ok (.goto (-23), 3) := by decide +kernel
theorem dM_ask_197 : decode bM_ask 197 = .ok (.aload_n 0, 1) := by decide +kernel
theorem dM_ask_198 : decode bM_ask 198 = .ok (.getfield 239, 3) := by decide +kernel
theorem dM_ask_201 : decode bM_ask 201 = .ok (.ireturn, 1) := by decide +kernel
theorem dM_answer_0 : decode bM_answer 0 = .ok (.aload_n 0, 1) := by decide +kernel
theorem dM_answer_1 : decode bM_answer 1 = .ok (.iconst 0, 1) := by decide +kernel
theorem dM_answer_2 : decode bM_answer 2 = .ok (.putfield 83, 3) := by decide +kernel
theorem dM_answer_5 : decode bM_answer 5 = .ok (.iload_n 1, 1) := by decide +kernel
theorem dM_answer_6 : decode bM_answer 6 = .ok (.ifCond .lt 11, 3) := by decide +kernel
theorem dM_answer_9 : decode bM_answer 9 = .ok (.iload_n 1, 1) := by decide +kernel
theorem dM_answer_10 : decode bM_answer 10 = .ok (.aload_n 0, 1) := by decide +kernel
theorem dM_answer_11 : decode bM_answer 11 = .ok (.getfield 239, 3) := by decide +kernel
theorem dM_answer_14 : decode bM_answer 14 = .ok (.if_icmp .lt 7, 3) := by decide +kernel
theorem dM_answer_17 : decode bM_answer 17 = .ok (.iconst (-1), 1) := by decide +kernel
theorem dM_answer_18 : decode bM_answer 18 = .ok (.goto 9, 3) := by decide +kernel
theorem dM_answer_21 : decode bM_answer 21 = .ok (.aload_n 0, 1) := by decide +kernel
theorem dM_answer_22 : decode bM_answer 22 = .ok (.getfield 64, 3) := by decide +kernel
theorem dM_answer_25 : decode bM_answer 25 = .ok (.iload_n 1, 1) := by decide +kernel
theorem dM_answer_26 : decode bM_answer 26 = .ok (.iaload, 1) := by decide +kernel
theorem dM_answer_27 : decode bM_answer 27 = .ok (.ireturn, 1) := by decide +kernel
theorem dM_nearest_0 : decode bM_nearest 0 = .ok (.aload_n 0, 1) := by decide +kernel
theorem dM_nearest_1 : decode bM_nearest 1 = .ok (.iconst 0, 1) := by decide +kernel
theorem dM_nearest_2 : decode bM_nearest 2 = .ok (.putfield 83, 3) := by decide +kernel
theorem dM_nearest_5 : decode bM_nearest 5 = .ok (.aload_n 0, 1) := by decide +kernel
theorem dM_nearest_6 : decode bM_nearest 6 = .ok (.getfield 73, 3) := by decide +kernel
theorem dM_nearest_9 : decode bM_nearest 9 = .ok (.iconst (-1), 1) := by decide +kernel
theorem dM_nearest_10 : decode bM_nearest 10 = .ok (.if_icmp .ne 5, 3) := by decide +kernel
theorem dM_nearest_13 : decode bM_nearest 13 = .ok (.iconst (-1), 1) := by decide +kernel
theorem dM_nearest_14 : decode bM_nearest 14 = .ok (.ireturn, 1) := by decide +kernel
theorem dM_nearest_15 : decode bM_nearest 15 = .ok (.iconst (-1), 1) := by decide +kernel
theorem dM_nearest_16 : decode bM_nearest 16 = .ok (.istore_n 1, 1) := by decide +kernel
theorem dM_nearest_17 : decode bM_nearest 17 = .ok (.sipush 1000, 3) := by decide +kernel
theorem dM_nearest_20 : decode bM_nearest 20 = .ok (.istore_n 2, 1) := by decide +kernel
theorem dM_nearest_21 : decode bM_nearest 21 = .ok (.iconst 0, 1) := by decide +kernel
theorem dM_nearest_22 : decode bM_nearest 22 = .ok (.istore_n 3, 1) := by decide +kernel
theorem dM_nearest_23 : decode bM_nearest 23 = .ok (.iload_n 3, 1) := by decide +kernel
theorem dM_nearest_24 : decode bM_nearest 24 = .ok (.aload_n 0, 1) := by decide +kernel
theorem dM_nearest_25 : decode bM_nearest 25 = .ok (.getfield 86, 3) := by decide +kernel
theorem dM_nearest_28 : decode bM_nearest 28 = .ok (.if_icmp .ge 133, 3) := by decide +kernel
theorem dM_nearest_31 : decode bM_nearest 31 = .ok (.aload_n 0, 1) := by decide +kernel
theorem dM_nearest_32 : decode bM_nearest 32 = .ok (.getfield 7, 3) := by decide +kernel
theorem dM_nearest_35 : decode bM_nearest 35 = .ok (.iload_n 3, 1) := by decide +kernel
theorem dM_nearest_36 : decode bM_nearest 36 = .ok (.iaload, 1) := by decide +kernel
theorem dM_nearest_37 : decode bM_nearest 37 = .ok (.aload_n 0, 1) := by decide +kernel
theorem dM_nearest_38 : decode bM_nearest 38 = .ok (.getfield 73, 3) := by decide +kernel
theorem dM_nearest_41 : decode bM_nearest 41 = .ok (.bipush 10, 2) := by decide +kernel
theorem dM_nearest_43 : decode bM_nearest 43 = .ok (.idiv, 1) := by decide +kernel
theorem dM_nearest_44 : decode bM_nearest 44 = .ok (.isub, 1) := by decide +kernel
theorem dM_nearest_45 : decode bM_nearest 45 = .ok (.istore 4, 2) := by decide +kernel
theorem dM_nearest_47 : decode bM_nearest 47 = .ok (.aload_n 0, 1) := by decide +kernel
theorem dM_nearest_48 : decode bM_nearest 48 = .ok (.getfield 13, 3) := by decide +kernel
theorem dM_nearest_51 : decode bM_nearest 51 = .ok (.iload_n 3, 1) := by decide +kernel
theorem dM_nearest_52 : decode bM_nearest 52 = .ok (.iaload, 1) := by decide +kernel
theorem dM_nearest_53 : decode bM_nearest 53 = .ok (.aload_n 0, 1) := by decide +kernel
theorem dM_nearest_54 : decode bM_nearest 54 = .ok (.getfield 73, 3) := by decide +kernel
theorem dM_nearest_57 : decode bM_nearest 57 = .ok (.bipush 10, 2) := by decide +kernel
theorem dM_nearest_59 : decode bM_nearest 59 = .ok (.irem, 1) := by decide +kernel
theorem dM_nearest_60 : decode bM_nearest 60 = .ok (.isub, 1) := by decide +kernel
theorem dM_nearest_61 : decode bM_nearest 61 = .ok (.istore 5, 2) := by decide +kernel
theorem dM_nearest_63 : decode bM_nearest 63 = .ok (.iload 4, 2) := by decide +kernel
theorem dM_nearest_65 : decode bM_nearest 65 = .ok (.ifCond .eq 11, 3) := by decide +kernel
theorem dM_nearest_68 : decode bM_nearest 68 = .ok (.iload 5, 2) := by decide +kernel
theorem dM_nearest_70 : decode bM_nearest 70 = .ok (.ifCond .eq 6, 3) := by decide +kernel
theorem dM_nearest_73 : decode bM_nearest 73 = .ok (.goto 82, 3) := by decide +kernel
theorem dM_nearest_76 : decode bM_nearest 76 = .ok (.iload 4, 2) := by decide +kernel
theorem dM_nearest_78 : decode bM_nearest 78 = .ok (.ifCond .ne 32, 3) := by decide +kernel
theorem dM_nearest_81 : decode bM_nearest 81 = .ok (.iconst 2, 1) := by decide +kernel
theorem dM_nearest_82 : decode bM_nearest 82 = .ok (.iload 5, 2) := by decide +kernel
theorem dM_nearest_84 : decode bM_nearest 84 = .ok (.ifCond .ge 9, 3) := by decide +kernel
theorem dM_nearest_87 : decode bM_nearest 87 = .ok (.iload 5, 2) := by decide +kernel
theorem dM_nearest_89 : decode bM_nearest 89 = .ok (.ineg, 1) := by decide +kernel
theorem dM_nearest_90 : decode bM_nearest 90 = .ok (.goto 5, 3) := by decide +kernel
theorem dM_nearest_93 : decode bM_nearest 93 = .ok (.iload 5, 2) := by decide +kernel
theorem dM_nearest_95 : decode bM_nearest 95 = .ok (.imul, 1) := by decide +kernel
theorem dM_nearest_96 : decode bM_nearest 96 = .ok (.iload 5, 2) := by decide +kernel
theorem dM_nearest_98 : decode bM_nearest 98 = .ok (.ifCond .le 7, 3) := by decide +kernel
theorem dM_nearest_101 : decode bM_nearest 101 = .ok (.iconst 1, 1) := by decide +kernel
theorem dM_nearest_102 : decode bM_nearest 102 = .ok (.goto 4, 3) := by decide +kernel
theorem dM_nearest_105 : decode bM_nearest 105 = .ok (.iconst 0, 1) := by decide +kernel
theorem dM_nearest_106 : decode bM_nearest 106 = .ok (.iadd, 1) := by decide +kernel
theorem dM_nearest_107 : decode bM_nearest 107 = .ok (.goto 32, 3) := by decide +kernel
theorem dM_nearest_110 : decode bM_nearest 110 = .ok (.bipush 100, 2) := by decide +kernel
theorem dM_nearest_112 : decode bM_nearest 112 = .ok (.iconst 2, 1) := by decide +kernel
theorem dM_nearest_113 : decode bM_nearest 113 = .ok (.iload 4, 2) := by decide +kernel
theorem dM_nearest_115 : decode bM_nearest 115 = .ok (.ifCond .ge 9, 3) := by decide +kernel
theorem dM_nearest_118 : decode bM_nearest 118 = .ok (.iload 4, 2) := by decide +kernel
theorem dM_nearest_120 : decode bM_nearest 120 = .ok (.ineg, 1) := by decide +kernel
theorem dM_nearest_121 : decode bM_nearest 121 = .ok (.goto 5, 3) := by decide +kernel
theorem dM_nearest_124 : decode bM_nearest 124 = .ok (.iload 4, 2) := by decide +kernel
theorem dM_nearest_126 : decode bM_nearest 126 = .ok (.imul, 1) := by decide +kernel
theorem dM_nearest_127 : decode bM_nearest 127 = .ok (.iadd, 1) := by decide +kernel
theorem dM_nearest_128 : decode bM_nearest 128 = .ok (.iload 4, 2) := by decide +kernel
theorem dM_nearest_130 : decode bM_nearest 130 = .ok (.ifCond .le 7, 3) := by decide +kernel
theorem dM_nearest_133 : decode bM_nearest 133 = .ok (.iconst 1, 1) := by decide +kernel
theorem dM_nearest_134 : decode bM_nearest 134 = .ok (.goto 4, 3) := by decide +kernel
theorem dM_nearest_137 : decode bM_nearest 137 = .ok (.iconst 0, 1) := by decide +kernel
theorem dM_nearest_138 : decode bM_nearest 138 = .ok (.iadd, 1) := by decide +kernel
theorem dM_nearest_139 : decode bM_nearest 139 = .ok (.istore 6, 2) := by decide +kernel
theorem dM_nearest_141 : decode bM_nearest 141 = .ok (.iload 6, 2) := by decide +kernel
theorem dM_nearest_143 : decode bM_nearest 143 = .ok (.iload_n 2, 1) := by decide +kernel
theorem dM_nearest_144 : decode bM_nearest 144 = .ok (.if_icmp .lt 6, 3) := by decide +kernel
theorem dM_nearest_147 : decode bM_nearest 147 = .ok (.goto 8, 3) := by decide +kernel
theorem dM_nearest_150 : decode bM_nearest 150 = .ok (.iload 6, 2) := by decide +kernel
theorem dM_nearest_152 : decode bM_nearest 152 = .ok (.istore_n 2, 1) := by decide +kernel
theorem dM_nearest_153 : decode bM_nearest 153 = .ok (.iload_n 3, 1) := by decide +kernel
theorem dM_nearest_154 : decode bM_nearest 154 = .ok (.istore_n 1, 1) := by decide +kernel
theorem dM_nearest_155 : decode bM_nearest 155 = .ok (.iinc 3 1, 3) := by decide +kernel
theorem dM_nearest_158 : decode bM_nearest 158 = .ok (.goto (-135), 3) := by decide +kernel
theorem dM_nearest_161 : decode bM_nearest 161 = .ok (.iload_n 1, 1) := by decide +kernel
theorem dM_nearest_162 : decode bM_nearest 162 = .ok (.ireturn, 1) := by decide +kernel
theorem dM_far_0 : decode bM_far 0 = .ok (.aload_n 0, 1) := by decide +kernel
theorem dM_far_1 : decode bM_far 1 = .ok (.iconst 0, 1) := by decide +kernel
theorem dM_far_2 : decode bM_far 2 = .ok (.putfield 83, 3) := by decide +kernel
theorem dM_far_5 : decode bM_far 5 = .ok (.aload_n 0, 1) := by decide +kernel
theorem dM_far_6 : decode bM_far 6 = .ok (.iload_n 1, 1) := by decide +kernel
theorem dM_far_7 : decode bM_far 7 = .ok (.invokevirtual 93, 3) := by decide +kernel
theorem dM_far_10 : decode bM_far 10 = .ok (.ifCond .eq 11, 3) := by decide +kernel
theorem dM_far_13 : decode bM_far 13 = .ok (.aload_n 0, 1) := by decide +kernel
theorem dM_far_14 : decode bM_far 14 = .ok (.iload_n 2, 1) := by decide +kernel
theorem dM_far_15 : decode bM_far 15 = .ok (.invokevirtual 93, 3) := by decide +kernel
theorem dM_far_18 : decode bM_far 18 = .ok (.ifCond .ne 5, 3) := by decide +kernel
theorem dM_far_21 : decode bM_far 21 = .ok (.iconst (-1), 1) := by decide +kernel
theorem dM_far_22 : decode bM_far 22 = .ok (.ireturn, 1) := by decide +kernel
theorem dM_far_23 : decode bM_far 23 = .ok (.aload_n 0, 1) := by decide +kernel
theorem dM_far_24 : decode bM_far 24 = .ok (.iconst 0, 1) := by decide +kernel
theorem dM_far_25 : decode bM_far 25 = .ok (.putfield 183, 3) := by decide +kernel
theorem dM_far_28 : decode bM_far 28 = .ok (.aload_n 0, 1) := by decide +kernel
theorem dM_far_29 : decode bM_far 29 = .ok (.invokevirtual 193, 3) := by decide +kernel
theorem dM_far_32 : decode bM_far 32 = .ok (.aload_n 0, 1) := by decide +kernel
theorem dM_far_33 : decode bM_far 33 = .ok (.iload_n 1, 1) := by decide +kernel
theorem dM_far_34 : decode bM_far 34 = .ok (.invokevirtual 196, 3) := by decide +kernel
theorem dM_far_37 : decode bM_far 37 = .ok (.aload_n 0, 1) := by decide +kernel
theorem dM_far_38 : decode bM_far 38 = .ok (.iconst 0, 1) := by decide +kernel
theorem dM_far_39 : decode bM_far 39 = .ok (.sipush 1000, 3) := by decide +kernel
theorem dM_far_42 : decode bM_far 42 = .ok (.invokevirtual 205, 3) := by decide +kernel
theorem dM_far_45 : decode bM_far 45 = .ok (.aload_n 0, 1) := by decide +kernel
theorem dM_far_46 : decode bM_far 46 = .ok (.iconst 0, 1) := by decide +kernel
theorem dM_far_47 : decode bM_far 47 = .ok (.iload_n 2, 1) := by decide +kernel
theorem dM_far_48 : decode bM_far 48 = .ok (.invokevirtual 202, 3) := by decide +kernel
theorem dM_far_51 : decode bM_far 51 = .ok (.ifCond .eq 12, 3) := by decide +kernel
theorem dM_far_54 : decode bM_far 54 = .ok (.aload_n 0, 1) := by decide +kernel
theorem dM_far_55 : decode bM_far 55 = .ok (.getfield 70, 3) := by decide +kernel
theorem dM_far_58 : decode bM_far 58 = .ok (.iload_n 2, 1) := by decide +kernel
theorem dM_far_59 : decode bM_far 59 = .ok (.iaload, 1) := by decide +kernel
theorem dM_far_60 : decode bM_far 60 = .ok (.goto 4, 3) := by decide +kernel
theorem dM_far_63 : decode bM_far 63 = .ok (.iconst (-1), 1) := by decide +kernel
theorem dM_far_64 : decode bM_far 64 = .ok (.ireturn, 1) := by decide +kernel
theorem dM_ways_0 : decode bM_ways 0 = .ok (.aload_n 0, 1) := by decide +kernel
theorem dM_ways_1 : decode bM_ways 1 = .ok (.iconst 0, 1) := by decide +kernel
theorem dM_ways_2 : decode bM_ways 2 = .ok (.putfield 83, 3) := by decide +kernel
theorem dM_ways_5 : decode bM_ways 5 = .ok (.aload_n 0, 1) := by decide +kernel
theorem dM_ways_6 : decode bM_ways 6 = .ok (.iload_n 1, 1) := by decide +kernel
theorem dM_ways_7 : decode bM_ways 7 = .ok (.invokevirtual 93, 3) := by decide +kernel
theorem dM_ways_10 : decode bM_ways 10 = .ok (.ifCond .eq 21, 3) := by decide +kernel
theorem dM_ways_13 : decode bM_ways 13 = .ok (.aload_n 0, 1) := by decide +kernel
theorem dM_ways_14 : decode bM_ways 14 = .ok (.iload_n 2, 1) := by decide +kernel
theorem dM_ways_15 : decode bM_ways 15 = .ok (.invokevirtual 93, 3) := by decide +kernel
theorem dM_ways_18 : decode bM_ways 18 = .ok (.ifCond .eq 13, 3) := by decide +kernel
theorem dM_ways_21 : decode bM_ways 21 = .ok (.iload_n 3, 1) := by decide +kernel
theorem dM_ways_22 : decode bM_ways 22 = .ok (.ifCond .lt 9, 3) := by decide +kernel
theorem dM_ways_25 : decode bM_ways 25 = .ok (.iload_n 3, 1) := by decide +kernel
theorem dM_ways_26 : decode bM_ways 26 = .ok (.bipush 6, 2) := by decide +kernel
theorem dM_ways_28 : decode bM_ways 28 = .ok (.if_icmp .le 5, 3) := by decide +kernel
theorem dM_ways_31 : decode bM_ways 31 = .ok (.iconst (-1), 1) := by decide +kernel
theorem dM_ways_32 : decode bM_ways 32 = .ok (.ireturn, 1) := by decide +kernel
theorem dM_ways_33 : decode bM_ways 33 = .ok (.iload_n 1, 1) := by decide +kernel
theorem dM_ways_34 : decode bM_ways 34 = .ok (.iload_n 2, 1) := by decide +kernel
theorem dM_ways_35 : decode bM_ways 35 = .ok (.if_icmp .ne 5, 3) := by decide +kernel
theorem dM_ways_38 : decode bM_ways 38 = .ok (.iconst 1, 1) := by decide +kernel
theorem dM_ways_39 : decode bM_ways 39 = .ok (.ireturn, 1) := by decide +kernel
theorem dM_ways_40 : decode bM_ways 40 = .ok (.iconst 0, 1) := by decide +kernel
theorem dM_ways_41 : decode bM_ways 41 = .ok (.istore 4, 2) := by decide +kernel
theorem dM_ways_43 : decode bM_ways 43 = .ok (.iconst 1, 1) := by decide +kernel
theorem dM_ways_44 : decode bM_ways 44 = .ok (.istore 5, 2) := by decide +kernel
theorem dM_ways_46 : decode bM_ways 46 = .ok (.aload_n 0, 1) := by decide +kernel
theorem dM_ways_47 : decode bM_ways 47 = .ok (.getfield 77, 3) := by decide +kernel
theorem dM_ways_50 : decode bM_ways 50 = .ok (.iconst 0, 1) := by decide +kernel
theorem dM_ways_51 : decode bM_ways 51 = .ok (.iload_n 1, 1) := by decide +kernel
theorem dM_ways_52 : decode bM_ways 52 = .ok (.iastore, 1) := by decide +kernel
theorem dM_ways_53 : decode bM_ways 53 = .ok (.aload_n 0, 1) := by decide +kernel
theorem dM_ways_54 : decode bM_ways 54 = .ok (.getfield 80, 3) := by decide +kernel
theorem dM_ways_57 : decode bM_ways 57 = .ok (.iconst 0, 1) := by decide +kernel
theorem dM_ways_58 : decode bM_ways 58 = .ok (.iconst 0, 1) := by decide +kernel
theorem dM_ways_59 : decode bM_ways 59 = .ok (.iastore, 1) := by decide +kernel
theorem dM_ways_60 : decode bM_ways 60 = .ok (.iload 5, 2) := by decide +kernel
theorem dM_ways_62 : decode bM_ways 62 = .ok (.ifCond .le 163, 3) := by decide +kernel
theorem dM_ways_65 : decode bM_ways 65 = .ok (.aload_n 0, 1) := by decide +kernel
theorem dM_ways_66 : decode bM_ways 66 = .ok (.getfield 77, 3) := by decide +kernel
theorem dM_ways_69 : decode bM_ways 69 = .ok (.iload 5, 2) := by decide +kernel
theorem dM_ways_71 : decode bM_ways 71 = .ok (.iconst 1, 1) := by decide +kernel
theorem dM_ways_72 : decode bM_ways 72 = .ok (.isub, 1) := by decide +kernel
theorem dM_ways_73 : decode bM_ways 73 = .ok (.iaload, 1) := by decide +kernel
theorem dM_ways_74 : decode bM_ways 74 = .ok (.istore 6, 2) := by decide +kernel
theorem dM_ways_76 : decode bM_ways 76 = .ok (.aload_n 0, 1) := by decide +kernel
theorem dM_ways_77 : decode bM_ways 77 = .ok (.getfield 80, 3) := by decide +kernel
theorem dM_ways_80 : decode bM_ways 80 = .ok (.iload 5, 2) := by decide +kernel
theorem dM_ways_82 : decode bM_ways 82 = .ok (.iconst 1, 1) := by decide +kernel
theorem dM_ways_83 : decode bM_ways 83 = .ok (.isub, 1) := by decide +kernel
theorem dM_ways_84 : decode bM_ways 84 = .ok (.iaload, 1) := by decide +kernel
theorem dM_ways_85 : decode bM_ways 85 = .ok (.istore 7, 2) := by decide +kernel
theorem dM_ways_87 : decode bM_ways 87 = .ok (.aload_n 0, 1) := by decide +kernel
theorem dM_ways_88 : decode bM_ways 88 = .ok (.getfield 80, 3) := by decide +kernel
theorem dM_ways_91 : decode bM_ways 91 = .ok (.iload 5, 2) := by decide +kernel
theorem dM_ways_93 : decode bM_ways 93 = .ok (.iconst 1, 1) := by decide +kernel
theorem dM_ways_94 : decode bM_ways 94 = .ok (.isub, 1) := by decide +kernel
theorem dM_ways_95 : decode bM_ways 95 = .ok (.dup2, 1) := by decide +kernel
theorem dM_ways_96 : decode bM_ways 96 = .ok (.iaload, 1) := by decide +kernel
theorem dM_ways_97 : decode bM_ways 97 = .ok (.iconst 1, 1) := by decide +kernel
theorem dM_ways_98 : decode bM_ways 98 = .ok (.iadd, 1) := by decide +kernel
theorem dM_ways_99 : decode bM_ways 99 = .ok (.iastore, 1) := by decide +kernel
theorem dM_ways_100 : decode bM_ways 100 = .ok (.iload 5, 2) := by decide +kernel
theorem dM_ways_102 : decode bM_ways 102 = .ok (.iload_n 3, 1) := by decide +kernel
theorem dM_ways_103 : decode bM_ways 103 = .ok (.if_icmp .gt 15, 3) := by decide +kernel
theorem dM_ways_106 : decode bM_ways 106 = .ok (.iload 7, 2) := by decide +kernel
theorem dM_ways_108 : decode bM_ways 108 = .ok (.aload_n 0, 1) := by decide +kernel
theorem dM_ways_109 : decode bM_ways 109 = .ok (.getfield 19, 3) := by decide +kernel
theorem dM_ways_112 : decode bM_ways 112 = .ok (.iload 6, 2) := by decide +kernel
theorem dM_ways_114 : decode bM_ways 114 = .ok (.iaload, 1) := by decide +kernel
theorem dM_ways_115 : decode bM_ways 115 = .ok (.if_icmp .ne 9, 3) := by decide +kernel
theorem dM_ways_118 : decode bM_ways 118 = .ok (.iinc 5 (-1), 3) := by decide +kernel
theorem dM_ways_121 : decode bM_ways 121 = .ok (.goto (-61), 3) := by decide +kernel
theorem dM_ways_124 : decode bM_ways 124 = .ok (.aload_n 0, 1) := by decide +kernel
theorem dM_ways_125 : decode bM_ways 125 = .ok (.getfield 22, 3) := by decide +kernel
theorem dM_ways_128 : decode bM_ways 128 = .ok (.bipush 8, 2) := by decide +kernel
theorem dM_ways_130 : decode bM_ways 130 = .ok (.iload 6, 2) := by decide +kernel
theorem dM_ways_132 : decode bM_ways 132 = .ok (.imul, 1) := by decide +kernel
theorem dM_ways_133 : decode bM_ways 133 = .ok (.iload 7, 2) := by decide +kernel
theorem dM_ways_135 : decode bM_ways 135 = .ok (.iadd, 1) := by decide +kernel
theorem dM_ways_136 : decode bM_ways 136 = .ok (.iaload, 1) := by decide +kernel
theorem dM_ways_137 : decode bM_ways 137 = .ok (.istore 8, 2) := by decide +kernel
theorem dM_ways_139 : decode bM_ways 139 = .ok (.iconst 0, 1) := by decide +kernel
theorem dM_ways_140 : decode bM_ways 140 = .ok (.istore 9, 2) := by decide +kernel
theorem dM_ways_142 : decode bM_ways 142 = .ok (.iconst 0, 1) := by decide +kernel
theorem dM_ways_143 : decode bM_ways 143 = .ok (.istore 10, 2) := by decide +kernel
theorem dM_ways_145 : decode bM_ways 145 = .ok (.iload 10, 2) := by decide +kernel
theorem dM_ways_147 : decode bM_ways 147 = .ok (.iload 5, 2) := by decide +kernel
theorem dM_ways_149 : decode bM_ways 149 = .ok (.if_icmp .ge 33, 3) := by decide +kernel
theorem dM_ways_152 : decode bM_ways 152 = .ok (.iload 9, 2) := by decide +kernel
theorem dM_ways_154 : decode bM_ways 154 = .ok (.ifCond .ne 15, 3) := by decide +kernel
theorem dM_ways_157 : decode bM_ways 157 = .ok (.aload_n 0, 1) := by decide +kernel
theorem dM_ways_158 : decode bM_ways 158 = .ok (.getfield 77, 3) := by decide +kernel
theorem dM_ways_161 : decode bM_ways 161 = .ok (.iload 10, 2) := by decide +kernel
theorem dM_ways_163 : decode bM_ways 163 = .ok (.iaload, 1) := by decide +kernel
theorem dM_ways_164 : decode bM_ways 164 = .ok (.iload 8, 2) := by decide +kernel
theorem dM_ways_166 : decode bM_ways 166 = .ok (.if_icmp .ne 7, 3) := by decide +kernel
theorem dM_ways_169 : decode bM_ways 169 = .ok (.iconst 1, 1) := by decide +kernel
theorem dM_ways_170 : decode bM_ways 170 = .ok (.goto 4, 3) := by decide +kernel
theorem dM_ways_173 : decode bM_ways 173 = .ok (.iconst 0, 1) := by decide +kernel
theorem dM_ways_174 : decode bM_ways 174 = .ok (.istore 9, 2) := by decide +kernel
theorem dM_ways_176 : decode bM_ways 176 = .ok (.iinc 10 1, 3) := by decide +kernel
theorem dM_ways_179 : decode bM_ways 179 = .ok (.goto (-34), 3) := by decide +kernel
theorem dM_ways_182 : decode bM_ways 182 = .ok (.iload 9, 2) := by decide +kernel
theorem dM_ways_184 : decode bM_ways 184 = .ok (.ifCond .eq 6, 3) := by decide +kernel
theorem dM_ways_187 : decode bM_ways 187 = .ok (.goto (-127), 3) := by decide +kernel
theorem dM_ways_190 : decode bM_ways 190 = .ok (.iload 8, 2) := by decide +kernel
theorem dM_ways_192 : decode bM_ways 192 = .ok (.iload_n 2, 1) := by decide +kernel
theorem dM_ways_193 : decode bM_ways 193 = .ok (.if_icmp .ne 9, 3) := by decide +kernel
theorem dM_ways_196 : decode bM_ways 196 = .ok (.iinc 4 1, 3) := by decide +kernel
theorem dM_ways_199 : decode bM_ways 199 = .ok (.goto (-139), 3) := by decide +kernel
theorem dM_ways_202 : decode bM_ways 202 = .ok (.aload_n 0, 1) := by decide +kernel
theorem dM_ways_203 : decode bM_ways 203 = .ok (.getfield 77, 3) := by decide +kernel
theorem dM_ways_206 : decode bM_ways 206 = .ok (.iload 5, 2) := by decide +kernel
theorem dM_ways_208 : decode bM_ways 208 = .ok (.iload 8, 2) := by decide +kernel
theorem dM_ways_210 : decode bM_ways 210 = .ok (.iastore, 1) := by decide +kernel
theorem dM_ways_211 : decode bM_ways 211 = .ok (.aload_n 0, 1) := by decide +kernel
theorem dM_ways_212 : decode bM_ways 212 = .ok (.getfield 80, 3) := by decide +kernel
theorem dM_ways_215 : decode bM_ways 215 = .ok (.iload 5, 2) := by decide +kernel
theorem dM_ways_217 : decode bM_ways 217 = .ok (.iconst 0, 1) := by decide +kernel
theorem dM_ways_218 : decode bM_ways 218 = .ok (.iastore, 1) := by decide +kernel
theorem dM_ways_219 : decode bM_ways 219 = .ok (.iinc 5 1, 3) := by decide +kernel
theorem dM_ways_222 : decode bM_ways 222 = .ok (.goto (-162), 3) := by decide +kernel
theorem dM_ways_225 : decode bM_ways 225 = .ok (.iload 4, 2) := by decide +kernel
theorem dM_ways_227 : decode bM_ways 227 = .ok (.ireturn, 1) := by decide +kernel
theorem dM_work_0 : decode bM_work 0 = .ok (.aload_n 0, 1) := by decide +kernel
theorem dM_work_1 : decode bM_work 1 = .ok (.iconst 0, 1) := by decide +kernel
theorem dM_work_2 : decode bM_work 2 = .ok (.putfield 83, 3) := by decide +kernel
theorem dM_work_5 : decode bM_work 5 = .ok (.aload_n 0, 1) := by decide +kernel
theorem dM_work_6 : decode bM_work 6 = .ok (.getfield 236, 3) := by decide +kernel
theorem dM_work_9 : decode bM_work 9 = .ok (.ireturn, 1) := by decide +kernel
