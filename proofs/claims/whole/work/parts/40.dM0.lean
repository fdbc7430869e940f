theorem dM_init_0 : decode bM_init 0 = .ok (.aload_n 0, 1) := by decide +kernel
theorem dM_init_1 : decode bM_init 1 = .ok (.invokespecial 1, 3) := by decide +kernel
theorem dM_init_4 : decode bM_init 4 = .ok (.aload_n 0, 1) := by decide +kernel
theorem dM_init_5 : decode bM_init 5 = .ok (.bipush 30, 2) := by decide +kernel
theorem dM_init_7 : decode bM_init 7 = .ok (.newarray .int, 2) := by decide +kernel
theorem dM_init_9 : decode bM_init 9 = .ok (.putfield 7, 3) := by decide +kernel
theorem dM_init_12 : decode bM_init 12 = .ok (.aload_n 0, 1) := by decide +kernel
theorem dM_init_13 : decode bM_init 13 = .ok (.bipush 30, 2) := by decide +kernel
theorem dM_init_15 : decode bM_init 15 = .ok (.newarray .int, 2) := by decide +kernel
theorem dM_init_17 : decode bM_init 17 = .ok (.putfield 13, 3) := by decide +kernel
theorem dM_init_20 : decode bM_init 20 = .ok (.aload_n 0, 1) := by decide +kernel
theorem dM_init_21 : decode bM_init 21 = .ok (.bipush 30, 2) := by decide +kernel
theorem dM_init_23 : decode bM_init 23 = .ok (.newarray .int, 2) := by decide +kernel
theorem dM_init_25 : decode bM_init 25 = .ok (.putfield 16, 3) := by decide +kernel
theorem dM_init_28 : decode bM_init 28 = .ok (.aload_n 0, 1) := by decide +kernel
theorem dM_init_29 : decode bM_init 29 = .ok (.bipush 30, 2) := by decide +kernel
theorem dM_init_31 : decode bM_init 31 = .ok (.newarray .int, 2) := by decide +kernel
theorem dM_init_33 : decode bM_init 33 = .ok (.putfield 19, 3) := by decide +kernel
theorem dM_init_36 : decode bM_init 36 = .ok (.aload_n 0, 1) := by decide +kernel
theorem dM_init_37 : decode bM_init 37 = .ok (.sipush 240, 3) := by decide +kernel
theorem dM_init_40 : decode bM_init 40 = .ok (.newarray .int, 2) := by decide +kernel
theorem dM_init_42 : decode bM_init 42 = .ok (.putfield 22, 3) := by decide +kernel
theorem dM_init_45 : decode bM_init 45 = .ok (.aload_n 0, 1) := by decide +kernel
theorem dM_init_46 : decode bM_init 46 = .ok (.bipush 80, 2) := by decide +kernel
theorem dM_init_48 : decode bM_init 48 = .ok (.newarray .int, 2) := by decide +kernel
theorem dM_init_50 : decode bM_init 50 = .ok (.putfield 25, 3) := by decide +kernel
theorem dM_init_53 : decode bM_init 53 = .ok (.aload_n 0, 1) := by decide +kernel
theorem dM_init_54 : decode bM_init 54 = .ok (.sipush 400, 3) := by decide +kernel
theorem dM_init_57 : decode bM_init 57 = .ok (.newarray .int, 2) := by decide +kernel
theorem dM_init_59 : decode bM_init 59 = .ok (.putfield 28, 3) := by decide +kernel
theorem dM_init_62 : decode bM_init 62 = .ok (.aload_n 0, 1) := by decide +kernel
theorem dM_init_63 : decode bM_init 63 = .ok (.sipush 400, 3) := by decide +kernel
theorem dM_init_66 : decode bM_init 66 = .ok (.newarray .int, 2) := by decide +kernel
theorem dM_init_68 : decode bM_init 68 = .ok (.putfield 31, 3) := by decide +kernel
theorem dM_init_71 : decode bM_init 71 = .ok (.aload_n 0, 1) := by decide +kernel
theorem dM_init_72 : decode bM_init 72 = .ok (.sipush 400, 3) := by decide +kernel
theorem dM_init_75 : decode bM_init 75 = .ok (.newarray .int, 2) := by decide +kernel
theorem dM_init_77 : decode bM_init 77 = .ok (.putfield 34, 3) := by decide +kernel
theorem dM_init_80 : decode bM_init 80 = .ok (.aload_n 0, 1) := by decide +kernel
theorem dM_init_81 : decode bM_init 81 = .ok (.bipush 26, 2) := by decide +kernel
theorem dM_init_83 : decode bM_init 83 = .ok (.newarray .int, 2) := by decide +kernel
theorem dM_init_85 : decode bM_init 85 = .ok (.putfield 37, 3) := by decide +kernel
theorem dM_init_88 : decode bM_init 88 = .ok (.aload_n 0, 1) := by decide +kernel
theorem dM_init_89 : decode bM_init 89 = .ok (.sipush 200, 3) := by decide +kernel
theorem dM_init_92 : decode bM_init 92 = .ok (.newarray .int, 2) := by decide +kernel
theorem dM_init_94 : decode bM_init 94 = .ok (.putfield 40, 3) := by decide +kernel
theorem dM_init_97 : decode bM_init 97 = .ok (.aload_n 0, 1) := by decide +kernel
theorem dM_init_98 : decode bM_init 98 = .ok (.sipush 200, 3) := by decide +kernel
theorem dM_init_101 : decode bM_init 101 = .ok (.newarray .int, 2) := by decide +kernel
theorem dM_init_103 : decode bM_init 103 = .ok (.putfield 43, 3) := by decide +kernel
theorem dM_init_106 : decode bM_init 106 = .ok (.aload_n 0, 1) := by decide +kernel
theorem dM_init_107 : decode bM_init 107 = .ok (.sipush 200, 3) := by decide +kernel
theorem dM_init_110 : decode bM_init 110 = .ok (.newarray .int, 2) := by decide +kernel
theorem dM_init_112 : decode bM_init 112 = .ok (.putfield 46, 3) := by decide +kernel
theorem dM_init_115 : decode bM_init 115 = .ok (.aload_n 0, 1) := by decide +kernel
theorem dM_init_116 : decode bM_init 116 = .ok (.sipush 1800, 3) := by decide +kernel
theorem dM_init_119 : decode bM_init 119 = .ok (.newarray .int, 2) := by decide +kernel
theorem dM_init_121 : decode bM_init 121 = .ok (.putfield 49, 3) := by decide +kernel
theorem dM_init_124 : decode bM_init 124 = .ok (.aload_n 0, 1) := by decide +kernel
theorem dM_init_125 : decode bM_init 125 = .ok (.bipush 60, 2) := by decide +kernel
theorem dM_init_127 : decode bM_init 127 = .ok (.newarray .int, 2) := by decide +kernel
theorem dM_init_129 : decode bM_init 129 = .ok (.putfield 52, 3) := by decide +kernel
theorem dM_init_132 : decode bM_init 132 = .ok (.aload_n 0, 1) := by decide +kernel
theorem dM_init_133 : decode bM_init 133 = .ok (.sipush 600, 3) := by decide +kernel
theorem dM_init_136 : decode bM_init 136 = .ok (.newarray .int, 2) := by decide +kernel
theorem dM_init_138 : decode bM_init 138 = .ok (.putfield 55, 3) := by decide +kernel
theorem dM_init_141 : decode bM_init 141 = .ok (.aload_n 0, 1) := by decide +kernel
theorem dM_init_142 : decode bM_init 142 = .ok (.bipush 20, 2) := by decide +kernel
theorem dM_init_144 : decode bM_init 144 = .ok (.newarray .int, 2) := by decide +kernel
theorem dM_init_146 : decode bM_init 146 = .ok (.putfield 58, 3) := by decide +kernel
theorem dM_init_149 : decode bM_init 149 = .ok (.aload_n 0, 1) := by decide +kernel
theorem dM_init_150 : decode bM_init 150 = .ok (.bipush 20, 2) := by decide +kernel
theorem dM_init_152 : decode bM_init 152 = .ok (.newarray .int, 2) := by decide +kernel
theorem dM_init_154 : decode bM_init 154 = .ok (.putfield 61, 3) := by decide +kernel
theorem dM_init_157 : decode bM_init 157 = .ok (.aload_n 0, 1) := by decide +kernel
theorem dM_init_158 : decode bM_init 158 = .ok (.bipush 30, 2) := by decide +kernel
theorem dM_init_160 : decode bM_init 160 = .ok (.newarray .int, 2) := by decide +kernel
theorem dM_init_162 : decode bM_init 162 = .ok (.putfield 64, 3) := by decide +kernel
theorem dM_init_165 : decode bM_init 165 = .ok (.aload_n 0, 1) := by decide +kernel
theorem dM_init_166 : decode bM_init 166 = .ok (.bipush 30, 2) := by decide +kernel
theorem dM_init_168 : decode bM_init 168 = .ok (.newarray .int, 2) := by decide +kernel
theorem dM_init_170 : decode bM_init 170 = .ok (.putfield 67, 3) := by decide +kernel
theorem dM_init_173 : decode bM_init 173 = .ok (.aload_n 0, 1) := by decide +kernel
theorem dM_init_174 : decode bM_init 174 = .ok (.bipush 30, 2) := by decide +kernel
theorem dM_init_176 : decode bM_init 176 = .ok (.newarray .int, 2) := by decide +kernel
theorem dM_init_178 : decode bM_init 178 = .ok (.putfield 70, 3) := by decide +kernel
theorem dM_init_181 : decode bM_init 181 = .ok (.aload_n 0, 1) := by decide +kernel
theorem dM_init_182 : decode bM_init 182 = .ok (.iconst (-1), 1) := by decide +kernel
theorem dM_init_183 : decode bM_init 183 = .ok (.putfield 73, 3) := by decide +kernel
theorem dM_init_186 : decode bM_init 186 = .ok (.aload_n 0, 1) := by decide +kernel
theorem dM_init_187 : decode bM_init 187 = .ok (.bipush 8, 2) := by decide +kernel
theorem dM_init_189 : decode bM_init 189 = .ok (.newarray .int, 2) := by decide +kernel
theorem dM_init_191 : decode bM_init 191 = .ok (.putfield 77, 3) := by decide +kernel
theorem dM_init_194 : decode bM_init 194 = .ok (.aload_n 0, 1) := by decide +kernel
theorem dM_init_195 : decode bM_init 195 = .ok (.bipush 8, 2) := by decide +kernel
theorem dM_init_197 : decode bM_init 197 = .ok (.newarray .int, 2) := by decide +kernel
theorem dM_init_199 : decode bM_init 199 = .ok (.putfield 80, 3) := by decide +kernel
theorem dM_init_202 : decode bM_init 202 = .ok (.return_, 1) := by decide +kernel
theorem dM_isTarget_0 : decode bM_isTarget 0 = .ok (.iload_n 1, 1) := by decide +kernel
theorem dM_isTarget_1 : decode bM_isTarget 1 = .ok (.ifCond .lt 15, 3) := by decide +kernel
theorem dM_isTarget_4 : decode bM_isTarget 4 = .ok (.iload_n 1, 1) := by decide +kernel
theorem dM_isTarget_5 : decode bM_isTarget 5 = .ok (.aload_n 0, 1) := by decide +kernel
theorem dM_isTarget_6 : decode bM_isTarget 6 = .ok (.getfield 86, 3) := by decide +kernel
theorem dM_isTarget_9 : decode bM_isTarget 9 = .ok (.if_icmp .ge 7, 3) := by decide +kernel
theorem dM_isTarget_12 : decode bM_isTarget 12 = .ok (.iconst 1, 1) := by decide +kernel
theorem dM_isTarget_13 : decode bM_isTarget 13 = .ok (.goto 4, 3) := by decide +kernel
theorem dM_isTarget_16 : decode bM_isTarget 16 = .ok (.iconst 0, 1) := by decide +kernel
theorem dM_isTarget_17 : decode bM_isTarget 17 = .ok (.ireturn, 1) := by decide +kernel
theorem dM_find_0 : decode bM_find 0 = .ok (.iconst (-1), 1) := by decide +kernel
theorem dM_find_1 : decode bM_find 1 = .ok (.istore_n 3, 1) := by decide +kernel
theorem dM_find_2 : decode bM_find 2 = .ok (.iconst 0, 1) := by decide +kernel
theorem dM_find_3 : decode bM_find 3 = .ok (.istore 4, 2) := by decide +kernel
theorem dM_find_5 : decode bM_find 5 = .ok (.iload 4, 2) := by decide +kernel
theorem dM_find_7 : decode bM_find 7 = .ok (.aload_n 0, 1) := by decide +kernel
theorem dM_find_8 : decode bM_find 8 = .ok (.getfield 86, 3) := by decide +kernel
theorem dM_find_11 : decode bM_find 11 = .ok (.if_icmp .ge 38, 3) := by decide +kernel
theorem dM_find_14 : decode bM_find 14 = .ok (.aload_n 0, 1) := by decide +kernel
theorem dM_find_15 : decode bM_find 15 = .ok (.getfield 7, 3) := by decide +kernel
theorem dM_find_18 : decode bM_find 18 = .ok (.iload 4, 2) := by decide +kernel
theorem dM_find_20 : decode bM_find 20 = .ok (.iaload, 1) := by decide +kernel
theorem dM_find_21 : decode bM_find 21 = .ok (.iload_n 1, 1) := by decide +kernel
theorem dM_find_22 : decode bM_find 22 = .ok (.if_icmp .ne 19, 3) := by decide +kernel
theorem dM_find_25 : decode bM_find 25 = .ok (.aload_n 0, 1) := by decide +kernel
theorem dM_find_26 : decode bM_find 26 = .ok (.getfield 13, 3) := by decide +kernel
theorem dM_find_29 : decode bM_find 29 = .ok (.iload 4, 2) := by decide +kernel
theorem dM_find_31 : decode bM_find 31 = .ok (.iaload, 1) := by decide +kernel
theorem dM_find_32 : decode bM_find 32 = .ok (.iload_n 2, 1) := by decide +kernel
theorem dM_find_33 : decode bM_find 33 = .ok (.if_icmp .ne 8, 3) := by decide +kernel
theorem dM_find_36 : decode bM_find 36 = .ok (.iload 4, 2) := by decide +kernel
theorem dM_find_38 : decode bM_find 38 = .ok (.goto 4, 3) := by decide +kernel
theorem dM_find_41 : decode bM_find 41 = .ok (.iload_n 3, 1) := by decide +kernel
theorem dM_find_42 : decode bM_find 42 = .ok (.istore_n 3, 1) := by decide +kernel
theorem dM_find_43 : decode bM_find 43 = .ok (.iinc 4 1, 3) := by decide +kernel
theorem dM_find_46 : decode bM_find 46 = .ok (.goto (-41), 3) := by decide +kernel
theorem dM_find_49 : decode bM_find 49 = .ok (.iload_n 3, 1) := by decide +kernel
theorem dM_find_50 : decode bM_find 50 = .ok (.ireturn, 1) := by decide +kernel
theorem dM_target_0 : decode bM_target 0 = .ok (.aload_n 0, 1) := by decide +kernel
theorem dM_target_1 : decode bM_target 1 = .ok (.iconst 0, 1) := by decide +kernel
theorem dM_target_2 : decode bM_target 2 = .ok (.putfield 83, 3) := by decide +kernel
theorem dM_target_5 : decode bM_target 5 = .ok (.aload_n 0, 1) := by decide +kernel
theorem dM_target_6 : decode bM_target 6 = .ok (.getfield 86, 3) := by decide +kernel
theorem dM_target_9 : decode bM_target 9 = .ok (.bipush 30, 2) := by decide +kernel
theorem dM_target_11 : decode bM_target 11 = .ok (.if_icmp .eq 41, 3) := by decide +kernel
theorem dM_target_14 : decode bM_target 14 = .ok (.iload_n 1, 1) := by decide +kernel
theorem dM_target_15 : decode bM_target 15 = .ok (.ifCond .lt 37, 3) := by decide +kernel
theorem dM_target_18 : decode bM_target 18 = .ok (.iload_n 1, 1) := by decide +kernel
theorem dM_target_19 : decode bM_target 19 = .ok (.iconst 5, 1) := by decide +kernel
theorem dM_target_20 : decode bM_target 20 = .ok (.if_icmp .gt 32, 3) := by decide +kernel
theorem dM_target_23 : decode bM_target 23 = .ok (.iload_n 2, 1) := by decide +kernel
theorem dM_target_24 : decode bM_target 24 = .ok (.ifCond .lt 28, 3) := by decide +kernel
theorem dM_target_27 : decode bM_target 27 = .ok (.iload_n 2, 1) := by decide +kernel
theorem dM_target_28 : decode bM_target 28 = .ok (.bipush 9, 2) := by decide +kernel
theorem dM_target_30 : decode bM_target 30 = .ok (.if_icmp .gt 22, 3) := by decide +kernel
theorem dM_target_33 : decode bM_target 33 = .ok (.iload_n 3, 1) := by decide +kernel
theorem dM_target_34 : decode bM_target 34 = .ok (.ifCond .lt 18, 3) := by decide +kernel
theorem dM_target_37 : decode bM_target 37 = .ok (.iload_n 3, 1) := by decide +kernel
theorem dM_target_38 : decode bM_target 38 = .ok (.iconst 3, 1) := by decide +kernel
theorem dM_target_39 : decode bM_target 39 = .ok (.if_icmp .gt 13, 3) := by decide +kernel
theorem dM_target_42 : decode bM_target 42 = .ok (.aload_n 0, 1) := by decide +kernel
theorem dM_target_43 : decode bM_target 43 = .ok (.iload_n 1, 1) := by decide +kernel
theorem dM_target_44 : decode bM_target 44 = .ok (.iload_n 2, 1) := by decide +kernel
theorem dM_target_45 : decode bM_target 45 = .ok (.invokevirtual 89, 3) := by decide +kernel
theorem dM_target_48 : decode bM_target 48 = .ok (.iconst (-1), 1) := by decide +kernel
theorem dM_target_49 : decode bM_target 49 = .ok (.if_icmp .eq 5, 3) := by decide +kernel
theorem dM_target_52 : decode bM_target 52 = .ok (.iconst (-1), 1) := by decide +kernel
theorem dM_target_53 : decode bM_target 53 = .ok (.ireturn, 1) := by decide +kernel
theorem dM_target_54 : decode bM_target 54 = .ok (.aload_n 0, 1) := by decide +kernel
theorem dM_target_55 : decode bM_target 55 = .ok (.getfield 7, 3) := by decide +kernel
theorem dM_target_58 : decode bM_target 58 = .ok (.aload_n 0, 1) := by decide +kernel
theorem dM_target_59 : decode bM_target 59 = .ok (.getfield 86, 3) := by decide +kernel
theorem dM_target_62 : decode bM_target 62 = .ok (.iload_n 1, 1) := by decide +kernel
theorem dM_target_63 : decode bM_target 63 = .ok (.iastore, 1) := by decide +kernel
theorem dM_target_64 : decode bM_target 64 = .ok (.aload_n 0, 1) := by decide +kernel
theorem dM_target_65 : decode bM_target 65 = .ok (.getfield 13, 3) := by decide +kernel
theorem dM_target_68 : decode bM_target 68 = .ok (.aload_n 0, 1) := by decide +kernel
theorem dM_target_69 : decode bM_target 69 = .ok (.getfield 86, 3) := by decide +kernel
theorem dM_target_72 : decode bM_target 72 = .ok (.iload_n 2, 1) := by decide +kernel
theorem dM_target_73 : decode bM_target 73 = .ok (.iastore, 1) := by decide +kernel
theorem dM_target_74 : decode bM_target 74 = .ok (.aload_n 0, 1) := by decide +kernel
theorem dM_target_75 : decode bM_target 75 = .ok (.getfield 16, 3) := by decide +kernel
theorem dM_target_78 : decode bM_target 78 = .ok (.aload_n 0, 1) := by decide +kernel
theorem dM_target_79 : decode bM_target 79 = .ok (.getfield 86, 3) := by decide +kernel
theorem dM_target_82 : decode bM_target 82 = .ok (.iload_n 3, 1) := by decide +kernel
theorem dM_target_83 : decode bM_target 83 = .ok (.iastore, 1) := by decide +kernel
theorem dM_target_84 : decode bM_target 84 = .ok (.aload_n 0, 1) := by decide +kernel
theorem dM_target_85 : decode bM_target 85 = .ok (.dup, 1) := by decide +kernel
theorem dM_target_86 : decode bM_target 86 = .ok (.getfield 86, 3) := by decide +kernel
theorem dM_target_89 : decode bM_target 89 = .ok (.iconst 1, 1) := by decide +kernel
theorem dM_target_90 : decode bM_target 90 = .ok (.iadd, 1) := by decide +kernel
theorem dM_target_91 : decode bM_target 91 = .ok (.putfield 86, 3) := by decide +kernel
theorem dM_target_94 : decode bM_target 94 = .ok (.aload_n 0, 1) := by decide +kernel
theorem dM_target_95 : decode bM_target 95 = .ok (.getfield 86, 3) := by decide +kernel
theorem dM_target_98 : decode bM_target 98 = .ok (.iconst 1, 1) := by decide +kernel
theorem dM_target_99 : decode bM_target 99 = .ok (.isub, 1) := by decide +kernel
theorem dM_target_100 : decode bM_target 100 = .ok (.ireturn, 1) := by decide +kernel
theorem dM_isNeed_0 : decode bM_isNeed 0 = .ok (.iconst 0, 1) := by decide +kernel
theorem dM_isNeed_1 : decode bM_isNeed 1 = .ok (.istore_n 3, 1) := by decide +kernel
theorem dM_isNeed_2 : decode bM_isNeed 2 = .ok (.iconst 0, 1) := by decide +kernel
theorem dM_isNeed_3 : decode bM_isNeed 3 = .ok (.istore 4, 2) := by decide +kernel
theorem dM_isNeed_5 : decode bM_isNeed 5 = .ok (.iload 4, 2) := by decide +kernel
theorem dM_isNeed_7 : decode bM_isNeed 7 = .ok (.aload_n 0, 1) := by decide +kernel
theorem dM_isNeed_8 : decode bM_isNeed 8 = .ok (.getfield 19, 3) := by decide +kernel
theorem dM_isNeed_11 : decode bM_isNeed 11 = .ok (.iload_n 1, 1) := by decide +kernel
theorem dM_isNeed_12 : decode bM_isNeed 12 = .ok (.iaload, 1) := by decide +kernel
theorem dM_isNeed_13 : decode bM_isNeed 13 = .ok (.if_icmp .ge 35, 3) := by decide +kernel
theorem dM_isNeed_16 : decode bM_isNeed 16 = .ok (.iload_n 3, 1) := by decide +kernel
theorem dM_isNeed_17 : decode bM_isNeed 17 = .ok (.ifCond .ne 19, 3) := by decide +kernel
theorem dM_isNeed_20 : decode bM_isNeed 20 = .ok (.aload_n 0, 1) := by decide +kernel
theorem dM_isNeed_21 : decode bM_isNeed 21 = .ok (.getfield 22, 3) := by decide +kernel
theorem dM_isNeed_24 : decode bM_isNeed 24 = .ok (.bipush 8, 2) := by decide +kernel
theorem dM_isNeed_26 : decode bM_isNeed 26 = .ok (.iload_n 1, 1) := by decide +kernel
theorem dM_isNeed_27 : decode bM_isNeed 27 = .ok (.imul, 1) := by decide +kernel
theorem dM_isNeed_28 : decode bM_isNeed 28 = .ok (.iload 4, 2) := by decide +kernel
theorem dM_isNeed_30 : decode bM_isNeed 30 = .ok (.iadd, 1) := by decide +kernel
theorem dM_isNeed_31 : decode bM_isNeed 31 = .ok (.iaload, 1) := by decide +kernel
theorem dM_isNeed_32 : decode bM_isNeed 32 = .ok (.iload_n 2, 1) := by decide +kernel
theorem dM_isNeed_33 : decode bM_isNeed 33 = .ok (.if_icmp .ne 7, 3) := by decide +kernel
theorem dM_isNeed_36 : decode bM_isNeed 36 = .ok (.iconst 1, 1) := by decide +kernel
theorem dM_isNeed_37 : decode bM_isNeed 37 = .ok (.goto 4, 3) := by decide +kernel
theorem dM_isNeed_40 : decode bM_isNeed 40 = .ok (.iconst 0, 1) := by decide +kernel
theorem dM_isNeed_41 : decode bM_isNeed 41 = .ok (.istore_n 3, 1) := by decide +kernel
theorem dM_isNeed_42 : decode bM_isNeed 42 = .ok (.iinc 4 1, 3) := by decide +kernel
theorem dM_isNeed_45 : decode bM_isNeed 45 = .ok (.goto (-40), 3) := by decide +kernel
theorem dM_isNeed_48 : decode bM_isNeed 48 = .ok (.iload_n 3, 1) := by decide +kernel
theorem dM_isNeed_49 : decode bM_isNeed 49 = .ok (.ireturn, 1) := by decide +kernel
theorem dM_needs_0 : decode bM_needs 0 = .ok (.aload_n 0, 1) := by decide +kernel
theorem dM_needs_1 : decode bM_needs 1 = .ok (.iconst 0, 1) := by decide +kernel
theorem dM_needs_2 : decode bM_needs 2 = .ok (.putfield 83, 3) := by decide +kernel
theorem dM_needs_5 : decode bM_needs 5 = .ok (.aload_n 0, 1) := by decide +kernel
theorem dM_needs_6 : decode bM_needs 6 = .ok (.iload_n 1, 1) := by decide +kernel
theorem dM_needs_7 : decode bM_needs 7 = .ok (.invokevirtual 93, 3) := by decide +kernel
theorem dM_needs_10 : decode bM_needs 10 = .ok (.ifCond .eq 31, 3) := by decide +kernel
theorem dM_needs_13 : decode bM_needs 13 = .ok (.aload_n 0, 1) := by decide +kernel
theorem dM_needs_14 : decode bM_needs 14 = .ok (.iload_n 2, 1) := by decide +kernel
theorem dM_needs_15 : decode bM_needs 15 = .ok (.invokevirtual 93, 3) := by decide +kernel
theorem dM_needs_18 : decode bM_needs 18 = .ok (.ifCond .eq 23, 3) := by decide +kernel
theorem dM_needs_21 : decode bM_needs 21 = .ok (.aload_n 0, 1) := by decide +kernel
theorem dM_needs_22 : decode bM_needs 22 = .ok (.getfield 19, 3) := by decide +kernel
theorem dM_needs_25 : decode bM_needs 25 = .ok (.iload_n 1, 1) := by decide +kernel
theorem dM_needs_26 : decode bM_needs 26 = .ok (.iaload, 1) := by decide +kernel
theorem dM_needs_27 : decode bM_needs 27 = .ok (.bipush 8, 2) := by decide +kernel
theorem dM_needs_29 : decode bM_needs 29 = .ok (.if_icmp .eq 12, 3) := by decide +kernel
theorem dM_needs_32 : decode bM_needs 32 = .ok (.aload_n 0, 1) := by decide +kernel
theorem dM_needs_33 : decode bM_needs 33 = .ok (.iload_n 1, 1) := by decide +kernel
theorem dM_needs_34 : decode bM_needs 34 = .ok (.iload_n 2, 1) := by decide +kernel
theorem dM_needs_35 : decode bM_needs 35 = .ok (.invokevirtual 97, 3) := by decide +kernel
theorem dM_needs_38 : decode bM_needs 38 = .ok (.ifCond .eq 5, 3) := by decide +kernel
theorem dM_needs_41 : decode bM_needs 41 = .ok (.iconst 0, 1) := by decide +kernel
theorem dM_needs_42 : decode bM_needs 42 = .ok (.ireturn, 1) := by decide +kernel
theorem dM_needs_43 : decode bM_needs 43 = .ok (.aload_n 0, 1) := by decide +kernel
theorem dM_needs_44 : decode bM_needs 44 = .ok (.getfield 22, 3) := by decide +kernel
theorem dM_needs_47 : decode bM_needs 47 = .ok (.bipush 8, 2) := by decide +kernel
theorem dM_needs_49 : decode bM_needs 49 = .ok (.iload_n 1, 1) := by decide +kernel
theorem dM_needs_50 : decode bM_needs 50 = .ok (.imul, 1) := by decide +kernel
theorem dM_needs_51 : decode bM_needs 51 = .ok (.aload_n 0, 1) := by decide +kernel
theorem dM_needs_52 : decode bM_needs 52 = .ok (.getfield 19, 3) := by decide +kernel
theorem dM_needs_55 : decode bM_needs 55 = .ok (.iload_n 1, 1) := by decide +kernel
theorem dM_needs_56 : decode bM_needs 56 = .ok (.iaload, 1) := by decide +kernel
theorem dM_needs_57 : decode bM_needs 57 = .ok (.iadd, 1) := by decide +kernel
theorem dM_needs_58 : decode bM_needs 58 = .ok (.iload_n 2, 1) := by decide +kernel
theorem dM_needs_59 : decode bM_needs 59 = .ok (.iastore, 1) := by decide +kernel
theorem dM_needs_60 : decode bM_needs 60 = .ok (.aload_n 0, 1) := by decide +kernel
theorem dM_needs_61 : decode bM_needs 61 = .ok (.getfield 19, 3) := by decide +kernel
theorem dM_needs_64 : decode bM_needs 64 = .ok (.iload_n 1, 1) := by decide +kernel
theorem dM_needs_65 : decode bM_needs 65 = .ok (.dup2, 1) := by decide +kernel
theorem dM_needs_66 : decode bM_needs 66 = .ok (.iaload, 1) := by decide +kernel
theorem dM_needs_67 : decode bM_needs 67 = .ok (.iconst 1, 1) := by decide +kernel
theorem dM_needs_68 : decode bM_needs 68 = .ok (.iadd, 1) := by decide +kernel
theorem dM_needs_69 : decode bM_needs 69 = .ok (.iastore, 1) := by decide +kernel
theorem dM_needs_70 : decode bM_needs 70 = .ok (.iconst 1, 1) := by decide +kernel
theorem dM_needs_71 : decode bM_needs 71 = .ok (.ireturn, 1) := by decide +kernel
theorem dM_need_0 : decode bM_need 0 = .ok (.aload_n 0, 1) := by decide +kernel
theorem dM_need_1 : decode bM_need 1 = .ok (.iconst 0, 1) := by decide +kernel
theorem dM_need_2 : decode bM_need 2 = .ok (.putfield 83, 3) := by decide +kernel
theorem dM_need_5 : decode bM_need 5 = .ok (.aload_n 0, 1) := by decide +kernel
theorem dM_need_6 : decode bM_need 6 = .ok (.iload_n 1, 1) := by decide +kernel
theorem dM_need_7 : decode bM_need 7 = .ok (.invokevirtual 93, 3) := by decide +kernel
theorem dM_need_10 : decode bM_need 10 = .ok (.ifCond .eq 31, 3) := by decide +kernel
theorem dM_need_13 : decode bM_need 13 = .ok (.iload_n 2, 1) := by decide +kernel
theorem dM_need_14 : decode bM_need 14 = .ok (.ifCond .lt 27, 3) := by decide +kernel
theorem dM_need_17 : decode bM_need 17 = .ok (.iload_n 2, 1) := by decide +kernel
theorem dM_need_18 : decode bM_need 18 = .ok (.aload_n 0, 1) := by decide +kernel
theorem dM_need_19 : decode bM_need 19 = .ok (.getfield 19, 3) := by decide +kernel
theorem dM_need_22 : decode bM_need 22 = .ok (.iload_n 1, 1) := by decide +kernel
theorem dM_need_23 : decode bM_need 23 = .ok (.iaload, 1) := by decide +kernel
theorem dM_need_24 : decode bM_need 24 = .ok (.if_icmp .ge 17, 3) := by decide +kernel
theorem dM_need_27 : decode bM_need 27 = .ok (.aload_n 0, 1) := by decide +kernel
theorem dM_need_28 : decode bM_need 28 = .ok (.getfield 22, 3) := by decide +kernel
theorem dM_need_31 : decode bM_need 31 = .ok (.bipush 8, 2) := by decide +kernel
theorem dM_need_33 : decode bM_need 33 = .ok (.iload_n 1, 1) := by decide +kernel
theorem dM_need_34 : decode bM_need 34 = .ok (.imul, 1) := by decide +kernel
theorem dM_need_35 : decode bM_need 35 = .ok (.iload_n 2, 1) := by decide +kernel
theorem dM_need_36 : decode bM_need 36 = .ok (.iadd, 1) := by decide +kernel
theorem dM_need_37 : decode bM_need 37 = .ok (.iaload, 1) := by decide +kernel
theorem dM_need_38 : decode bM_need 38 = .ok (.goto 4, 3) := by decide +kernel
theorem dM_need_41 : decode bM_need 41 = .ok (.iconst (-1), 1) := by decide +kernel
theorem dM_need_42 : decode bM_need 42 = .ok (.ireturn, 1) := by decide +kernel
theorem dM_type_0 : decode bM_type 0 = .ok (.aload_n 0, 1) := by decide +kernel
theorem dM_type_1 : decode bM_type 1 = .ok (.iconst 0, 1) := by decide +kernel
theorem dM_type_2 : decode bM_type 2 = .ok (.putfield 83, 3) := by decide +kernel
theorem dM_type_5 : decode bM_type 5 = .ok (.iload_n 1, 1) := by decide +kernel
theorem dM_type_6 : decode bM_type 6 = .ok (.bipush 32, 2) := by decide +kernel
theorem dM_type_8 : decode bM_type 8 = .ok (.if_icmp .lt 18, 3) := by decide +kernel
theorem dM_type_11 : decode bM_type 11 = .ok (.iload_n 1, 1) := by decide +kernel
theorem dM_type_12 : decode bM_type 12 = .ok (.bipush 126, 2) := by decide +kernel
theorem dM_type_14 : decode bM_type 14 = .ok (.if_icmp .gt 12, 3) := by decide +kernel
theorem dM_type_17 : decode bM_type 17 = .ok (.aload_n 0, 1) := by decide +kernel
theorem dM_type_18 : decode bM_type 18 = .ok (.getfield 101, 3) := by decide +kernel
theorem dM_type_21 : decode bM_type 21 = .ok (.bipush 80, 2) := by decide +kernel
theorem dM_type_23 : decode bM_type 23 = .ok (.if_icmp .ne 5, 3) := by decide +kernel
theorem dM_type_26 : decode bM_type 26 = .ok (.iconst 0, 1) := by decide +kernel
theorem dM_type_27 : decode bM_type 27 = .ok (.ireturn, 1) := by decide +kernel
theorem dM_type_28 : decode bM_type 28 = .ok (.aload_n 0, 1) := by decide +kernel
theorem dM_type_29 : decode bM_type 29 = .ok (.getfield 25, 3) := by decide +kernel
theorem dM_type_32 : decode bM_type 32 = .ok (.aload_n 0, 1) := by decide +kernel
theorem dM_type_33 : decode bM_type 33 = .ok (.getfield 101, 3) := by decide +kernel
theorem dM_type_36 : decode bM_type 36 = .ok (.iload_n 1, 1) := by decide +kernel
theorem dM_type_37 : decode bM_type 37 = .ok (.iastore, 1) := by decide +kernel
theorem dM_type_38 : decode bM_type 38 = .ok (.aload_n 0, 1) := by decide +kernel
theorem dM_type_39 : decode bM_type 39 = .ok (.dup, 1) := by decide +kernel
theorem dM_type_40 : decode bM_type 40 = .ok (.getfield 101, 3) := by decide +kernel
theorem dM_type_43 : decode bM_type 43 = .ok (.iconst 1, 1) := by decide +kernel
theorem dM_type_44 : decode bM_type 44 = .ok (.iadd, 1) := by decide +kernel
theorem dM_type_45 : decode bM_type 45 = .ok (.putfield 101, 3) := by decide +kernel
theorem dM_type_48 : decode bM_type 48 = .ok (.iconst 1, 1) := by decide +kernel
theorem dM_type_49 : decode bM_type 49 = .ok (.ireturn, 1) := by decide +kernel
theorem dM_isDigit_0 : decode bM_isDigit 0 = .ok (.iload_n 0, 1) := by decide +kernel
theorem dM_isDigit_1 : decode bM_isDigit 1 = .ok (.bipush 48, 2) := by decide +kernel
theorem dM_isDigit_3 : decode bM_isDigit 3 = .ok (.if_icmp .lt 13, 3) := by decide +kernel
theorem dM_isDigit_6 : decode bM_isDigit 6 = .ok (.iload_n 0, 1) := by decide +kernel
theorem dM_isDigit_7 : decode bM_isDigit 7 = .ok (.bipush 57, 2) := by decide +kernel
theorem dM_isDigit_9 : decode bM_isDigit 9 = .ok (.if_icmp .gt 7, 3) := by decide +kernel
theorem dM_isDigit_12 : decode bM_isDigit 12 = .ok (.iconst 1, 1) := by decide +kernel
theorem dM_isDigit_13 : decode bM_isDigit 13 = .ok (.goto 4, 3) := by decide +kernel
theorem dM_isDigit_16 : decode bM_isDigit 16 = .ok (.iconst 0, 1) := by decide +kernel
theorem dM_isDigit_17 : decode bM_isDigit 17 = .ok (.ireturn, 1) := by decide +kernel
theorem dM_isGreat_0 : decode bM_isGreat 0 = .ok (.iload_n 0, 1) := by decide +kernel
theorem dM_isGreat_1 : decode bM_isGreat 1 = .ok (.bipush 65, 2) := by decide +kernel
theorem dM_isGreat_3 : decode bM_isGreat 3 = .ok (.if_icmp .lt 13, 3) := by decide +kernel
theorem dM_isGreat_6 : decode bM_isGreat 6 = .ok (.iload_n 0, 1) := by decide +kernel
theorem dM_isGreat_7 : decode bM_isGreat 7 = .ok (.bipush 90, 2) := by decide +kernel
theorem dM_isGreat_9 : decode bM_isGreat 9 = .ok (.if_icmp .gt 7, 3) := by decide +kernel
theorem dM_isGreat_12 : decode bM_isGreat 12 = .ok (.iconst 1, 1) := by decide +kernel
theorem dM_isGreat_13 : decode bM_isGreat 13 = .ok (.goto 4, 3) := by decide +kernel
theorem dM_isGreat_16 : decode bM_isGreat 16 = .ok (.iconst 0, 1) := by decide +kernel
theorem dM_isGreat_17 : decode bM_isGreat 17 = .ok (.ireturn, 1) := by decide +kernel
theorem dM_isSign_0 : decode bM_isSign 0 = .ok (.iload_n 0, 1) := by decide +kernel
theorem dM_isSign_1 : decode bM_isSign 1 = .ok (.invokestatic 104, 3) := by decide +kernel
theorem dM_isSign_4 : decode bM_isSign 4 = .ok (.ifCond .ne 22, 3) := by decide +kernel
theorem dM_isSign_7 : decode bM_isSign 7 = .ok (.iload_n 0, 1) := by decide +kernel
theorem dM_isSign_8 : decode bM_isSign 8 = .ok (.invokestatic 107, 3) := by decide +kernel
theorem dM_isSign_11 : decode bM_isSign 11 = .ok (.ifCond .ne 15, 3) := by decide +kernel
theorem dM_isSign_14 : decode bM_isSign 14 = .ok (.iload_n 0, 1) := by decide +kernel
theorem dM_isSign_15 : decode bM_isSign 15 = .ok (.bipush 97, 2) := by decide +kernel
theorem dM_isSign_17 : decode bM_isSign 17 = .ok (.if_icmp .lt 13, 3) := by decide +kernel
theorem dM_isSign_20 : decode bM_isSign 20 = .ok (.iload_n 0, 1) := by decide +kernel
theorem dM_isSign_21 : decode bM_isSign 21 = .ok (.bipush 122, 2) := by decide +kernel
theorem dM_isSign_23 : decode bM_isSign 23 = .ok (.if_icmp .gt 7, 3) := by decide +kernel
theorem dM_isSign_26 : decode bM_isSign 26 = .ok (.iconst 1, 1) := by decide +kernel
theorem dM_isSign_27 : decode bM_isSign 27 = .ok (.goto 4, 3) := by decide +kernel
theorem dM_isSign_30 : decode bM_isSign 30 = .ok (.iconst 0, 1) := by decide +kernel
theorem dM_isSign_31 : decode bM_isSign 31 = .ok (.ireturn, 1) := by decide +kernel
theorem dM_wordToken_0 : decode bM_wordToken 0 = .ok (.lconst 0, 1) := by decide +kernel
theorem dM_wordToken_1 : decode bM_wordToken 1 = .ok (.lstore_n 1, 1) := by decide +kernel
theorem dM_wordToken_2 : decode bM_wordToken 2 = .ok (.aload_n 0, 1) := by decide +kernel
theorem dM_wordToken_3 : decode bM_wordToken 3 = .ok (.getfield 110, 3) := by decide +kernel
theorem dM_wordToken_6 : decode bM_wordToken 6 = .ok (.istore_n 3, 1) := by decide +kernel
theorem dM_wordToken_7 : decode bM_wordToken 7 = .ok (.iload_n 3, 1) := by decide +kernel
theorem dM_wordToken_8 : decode bM_wordToken 8 = .ok (.aload_n 0, 1) := by decide +kernel
theorem dM_wordToken_9 : decode bM_wordToken 9 = .ok (.getfield 113, 3) := by decide +kernel
theorem dM_wordToken_12 : decode bM_wordToken 12 = .ok (.if_icmp .ge 33, 3) := by decide +kernel
theorem dM_wordToken_15 : decode bM_wordToken 15 = .ok (.iload_n 3, 1) := by decide +kernel
theorem dM_wordToken_16 : decode bM_wordToken 16 = .ok (.aload_n 0, 1) := by decide +kernel
theorem dM_wordToken_17 : decode bM_wordToken 17 = .ok (.getfield 110, 3) := by decide +kernel
theorem dM_wordToken_20 : decode bM_wordToken 20 = .ok (.bipush 8, 2) := by decide +kernel
theorem dM_wordToken_22 : decode bM_wordToken 22 = .ok (.iadd, 1) := by decide +kernel
theorem dM_wordToken_23 : decode bM_wordToken 23 = .ok (.if_icmp .ge 22, 3) := by decide +kernel
theorem dM_wordToken_26 : decode bM_wordToken 26 = .ok (.lload_n 1, 1) := by decide +kernel
theorem dM_wordToken_27 : decode bM_wordToken 27 = .ok (.bipush 8, 2) := by decide +kernel
theorem dM_wordToken_29 : decode bM_wordToken 29 = .ok (.lshl, 1) := by decide +kernel
theorem dM_wordToken_30 : decode bM_wordToken 30 = .ok (.aload_n 0, 1) := by decide +kernel
theorem dM_wordToken_31 : decode bM_wordToken 31 = .ok (.getfield 25, 3) := by decide +kernel
theorem dM_wordToken_34 : decode bM_wordToken 34 = .ok (.iload_n 3, 1) := by decide +kernel
theorem dM_wordToken_35 : decode bM_wordToken 35 = .ok (.iaload, 1) := by decide +kernel
theorem dM_wordToken_36 : decode bM_wordToken 36 = .ok (.i2l, 1) := by decide +kernel
theorem dM_wordToken_37 : decode bM_wordToken 37 = .ok (.lor, 1) := by decide +kernel
theorem dM_wordToken_38 : decode bM_wordToken 38 = .ok (.lstore_n 1, 1) := by decide +kernel
theorem dM_wordToken_39 : decode bM_wordToken 39 = .ok (.iinc 3 1, 3) := by decide +kernel
theorem dM_wordToken_42 : decode bM_wordToken 42 = .ok (.goto (-35), 3) := by decide +kernel
theorem dM_wordToken_45 : decode bM_wordToken 45 = .ok (.aload_n 0, 1) := by decide +kernel
theorem dM_wordToken_46 : decode bM_wordToken 46 = .ok (.getfield 113, 3) := by decide +kernel
theorem dM_wordToken_49 : decode bM_wordToken 49 = .ok (.aload_n 0, 1) := by decide +kernel
theorem dM_wordToken_50 : decode bM_wordToken 50 = .ok (.getfield 110, 3) := by decide +kernel
theorem dM_wordToken_53 : decode bM_wordToken 53 = .ok (.isub, 1) := by decide +kernel
theorem dM_wordToken_54 : decode bM_wordToken 54 = .ok (.iconst 5, 1) := by decide +kernel
theorem dM_wordToken_55 : decode bM_wordToken 55 = .ok (.if_icmp .le 5, 3) := by decide +kernel
theorem dM_wordToken_58 : decode bM_wordToken 58 = .ok (.iconst 1, 1) := by decide +kernel
theorem dM_wordToken_59 : decode bM_wordToken 59 = .ok (.ireturn, 1) := by decide +kernel
theorem dM_wordToken_60 : decode bM_wordToken 60 = .ok (.lload_n 1, 1) := by decide +kernel
theorem dM_wordToken_61 : decode bM_wordToken 61 = .ok (.ldc2_w 116, 3) := by decide +kernel
theorem dM_wordToken_64 : decode bM_wordToken 64 = .ok (.lcmp, 1) := by decide +kernel
theorem dM_wordToken_65 : decode bM_wordToken 65 = .ok (.ifCond .ne 7, 3) := by decide +kernel
theorem dM_wordToken_68 : decode bM_wordToken 68 = .ok (.iconst 5, 1) := by decide +kernel
theorem dM_wordToken_69 : decode bM_wordToken 69 = .ok (.goto 108, 3) := by decide +kernel
theorem dM_wordToken_72 : decode bM_wordToken 72 = .ok (.lload_n 1, 1) := by decide +kernel
theorem dM_wordToken_73 : decode bM_wordToken 73 = .ok (.ldc2_w 118, 3) := by decide +kernel
theorem dM_wordToken_76 : decode bM_wordToken 76 = .ok (.lcmp, 1) := by decide +kernel
theorem dM_wordToken_77 : decode bM_wordToken 77 = .ok (.ifCond .ne 8, 3) := by decide +kernel
theorem dM_wordToken_80 : decode bM_wordToken 80 = .ok (.bipush 6, 2) := by decide +kernel
theorem dM_wordToken_82 : decode bM_wordToken 82 = .ok (.goto 95, 3) := by decide +kernel
theorem dM_wordToken_85 : decode bM_wordToken 85 = .ok (.lload_n 1, 1) := by decide +kernel
theorem dM_wordToken_86 : decode bM_wordToken 86 = .ok (.ldc2_w 120, 3) := by decide +kernel
theorem dM_wordToken_89 : decode bM_wordToken 89 = .ok (.lcmp, 1) := by decide +kernel
theorem dM_wordToken_90 : decode bM_wordToken 90 = .ok (.ifCond .ne 8, 3) := by decide +kernel
theorem dM_wordToken_93 : decode bM_wordToken 93 = .ok (.bipush 7, 2) := by decide +kernel
theorem dM_wordToken_95 : decode bM_wordToken 95 = .ok (.goto 82, 3) := by decide +kernel
theorem dM_wordToken_98 : decode bM_wordToken 98 = .ok (.lload_n 1, 1) := by decide +kernel
theorem dM_wordToken_99 : decode bM_wordToken 99 = .ok (.ldc2_w 122, 3) := by decide +kernel
theorem dM_wordToken_102 : decode bM_wordToken 102 = .ok (.lcmp, 1) := by decide +kernel
theorem dM_wordToken_103 : decode bM_wordToken 103 = .ok (.ifCond .ne 8, 3) := by decide +kernel
theorem dM_wordToken_106 : decode bM_wordToken 106 = .ok (.bipush 8, 2) := by decide +kernel
theorem dM_wordToken_108 : decode bM_wordToken 108 = .ok (.goto 69, 3) := by decide +kernel
theorem dM_wordToken_111 : decode bM_wordToken 111 = .ok (.lload_n 1, 1) := by decide +kernel
theorem dM_wordToken_112 : decode bM_wordToken 112 = .ok (.ldc2_w 124, 3) := by decide +kernel
theorem dM_wordToken_115 : decode bM_wordToken 115 = .ok (.lcmp, 1) := by decide +kernel
theorem dM_wordToken_116 : decode bM_wordToken 116 = .ok (.ifCond .ne 8, 3) := by decide +kernel
theorem dM_wordToken_119 : decode bM_wordToken 119 = .ok (.bipush 9, 2) := by decide +kernel
theorem dM_wordToken_121 : decode bM_wordToken 121 = .ok (.goto 56, 3) := by decide +kernel
theorem dM_wordToken_124 : decode bM_wordToken 124 = .ok (.lload_n 1, 1) := by decide +kernel
theorem dM_wordToken_125 : decode bM_wordToken 125 = .ok (.ldc2_w 126, 3) := by decide +kernel
theorem dM_wordToken_128 : decode bM_wordToken 128 = .ok (.lcmp, 1) := by decide +kernel
theorem dM_wordToken_129 : decode bM_wordToken 129 = .ok (.ifCond .ne 8, 3) := by decide +kernel
theorem dM_wordToken_132 : decode bM_wordToken 132 = .ok (.bipush 10, 2) := by decide +kernel
theorem dM_wordToken_134 : decode bM_wordToken 134 = .ok (.goto 43, 3) := by decide +kernel
theorem dM_wordToken_137 : decode bM_wordToken 137 = .ok (.lload_n 1, 1) := by decide +kernel
theorem dM_wordToken_138 : decode bM_wordToken 138 = .ok (.ldc2_w 128, 3) := by decide +kernel
theorem dM_wordToken_141 : decode bM_wordToken 141 = .ok (.lcmp, 1) := by decide +kernel
theorem dM_wordToken_142 : decode bM_wordToken 142 = .ok (.ifCond .ne 8, 3) := by decide +kernel
theorem dM_wordToken_145 : decode bM_wordToken 145 = .ok (.bipush 11, 2) := by decide +kernel
theorem dM_wordToken_147 : decode bM_wordToken 147 = .ok (.goto 30, 3) := by decide +kernel
theorem dM_wordToken_150 : decode bM_wordToken 150 = .ok (.lload_n 1, 1) := by decide +kernel
theorem dM_wordToken_151 : decode bM_wordToken 151 = .ok (.ldc2_w 130, 3) := by decide +kernel
theorem dM_wordToken_154 : decode bM_wordToken 154 = .ok (.lcmp, 1) := by decide +kernel
theorem dM_wordToken_155 : decode bM_wordToken 155 = .ok (.ifCond .ne 8, 3) := by decide +kernel
theorem dM_wordToken_158 : decode bM_wordToken 158 = .ok (.bipush 12, 2) := by decide +kernel
theorem dM_wordToken_160 : decode bM_wordToken 160 = .ok (.goto 17, 3) := by decide +kernel
theorem dM_wordToken_163 : decode bM_wordToken 163 = .ok (.lload_n 1, 1) := by decide +kernel
theorem dM_wordToken_164 : decode bM_wordToken 164 = .ok (.ldc2_w 132, 3) := by decide +kernel
theorem dM_wordToken_167 : decode bM_wordToken 167 = .ok (.lcmp, 1) := by decide +kernel
theorem dM_wordToken_168 : decode bM_wordToken 168 = .ok (.ifCond .ne 8, 3) := by decide +kernel
theorem dM_wordToken_171 : decode bM_wordToken 171 = .ok (.bipush 13, 2) := by decide +kernel
theorem dM_wordToken_173 : decode bM_wordToken 173 = .ok (.goto 4, 3) := by decide +kernel
theorem dM_wordToken_176 : decode bM_wordToken 176 = .ok (.iconst 1, 1) := by decide +kernel
theorem dM_wordToken_177 : decode bM_wordToken 177 = .ok (.ireturn, 1) := by decide +kernel
theorem dM_next_0 : decode bM_next 0 = .ok (.aload_n 0, 1) := by decide +kernel
theorem dM_next_1 : decode bM_next 1 = .ok (.aload_n 0, 1) := by decide +kernel
theorem dM_next_2 : decode bM_next 2 = .ok (.getfield 113, 3) := by decide +kernel
theorem dM_next_5 : decode bM_next 5 = .ok (.putfield 110, 3) := by decide +kernel
theorem dM_next_8 : decode bM_next 8 = .ok (.aload_n 0, 1) := by decide +kernel
theorem dM_next_9 : decode bM_next 9 = .ok (.getfield 110, 3) := by decide +kernel
theorem dM_next_12 : decode bM_next 12 = .ok (.aload_n 0, 1) := by decide +kernel
theorem dM_next_13 : decode bM_next 13 = .ok (.getfield 101, 3) := by decide +kernel
theorem dM_next_16 : decode bM_next 16 = .ok (.if_icmp .ge 30, 3) := by decide +kernel
theorem dM_next_19 : decode bM_next 19 = .ok (.aload_n 0, 1) := by decide +kernel
theorem dM_next_20 : decode bM_next 20 = .ok (.getfield 25, 3) := by decide +kernel
theorem dM_next_23 : decode bM_next 23 = .ok (.aload_n 0, 1) := by decide +kernel
theorem dM_next_24 : decode bM_next 24 = .ok (.getfield 110, 3) := by decide +kernel
theorem dM_next_27 : decode bM_next 27 = .ok (.iaload, 1) := by decide +kernel
theorem dM_next_28 : decode bM_next 28 = .ok (.bipush 32, 2) := by decide +kernel
theorem dM_next_30 : decode bM_next 30 = .ok (.if_icmp .ne 16, 3) := by decide +kernel
theorem dM_next_33 : decode bM_next 33 = .ok (.aload_n 0, 1) := by decide +kernel
theorem dM_next_34 : decode bM_next 34 = .ok (.dup, 1) := by decide +kernel
theorem dM_next_35 : decode bM_next 35 = .ok (.getfield 110, 3) := by decide +kernel
theorem dM_next_38 : decode bM_next 38 = .ok (.iconst 1, 1) := by decide +kernel
theorem dM_next_39 : decode bM_next 39 = .ok (.iadd, 1) := by decide +kernel
theorem dM_next_40 : decode bM_next 40 = .ok (.putfield 110, 3) := by decide +kernel
theorem dM_next_43 : decode bM_next 43 = .ok (.goto (-35), 3) := by decide +kernel
theorem dM_next_46 : decode bM_next 46 = .ok (.aload_n 0, 1) := by decide +kernel
theorem dM_next_47 : decode bM_next 47 = .ok (.aload_n 0, 1) := by decide +kernel
theorem dM_next_48 : decode bM_next 48 = .ok (.getfield 110, 3) := by decide +kernel
theorem dM_next_51 : decode bM_next 51 = .ok (.putfield 113, 3) := by decide +kernel
theorem dM_next_54 : decode bM_next 54 = .ok (.aload_n 0, 1) := by decide +kernel
theorem dM_next_55 : decode bM_next 55 = .ok (.getfield 110, 3) := by decide +kernel
theorem dM_next_58 : decode bM_next 58 = .ok (.aload_n 0, 1) := by decide +kernel
theorem dM_next_59 : decode bM_next 59 = .ok (.getfield 101, 3) := by decide +kernel
theorem dM_next_62 : decode bM_next 62 = .ok (.if_icmp .ne 9, 3) := by decide +kernel
theorem dM_next_65 : decode bM_next 65 = .ok (.aload_n 0, 1) := by decide +kernel
theorem dM_next_66 : decode bM_next 66 = .ok (.iconst 0, 1) := by decide +kernel
theorem dM_next_67 : decode bM_next 67 = .ok (.putfield 134, 3) := by decide +kernel
theorem dM_next_70 : decode bM_next 70 = .ok (.return_, 1) := by decide +kernel
theorem dM_next_71 : decode bM_next 71 = .ok (.aload_n 0, 1) := by decide +kernel
theorem dM_next_72 : decode bM_next 72 = .ok (.getfield 25, 3) := by decide +kernel
theorem dM_next_75 : decode bM_next 75 = .ok (.aload_n 0, 1) := by decide +kernel
theorem dM_next_76 : decode bM_next 76 = .ok (.getfield 110, 3) := by decide +kernel
theorem dM_next_79 : decode bM_next 79 = .ok (.iaload, 1) := by decide +kernel
theorem dM_next_80 : decode bM_next 80 = .ok (.istore_n 1, 1) := by decide +kernel
theorem dM_next_81 : decode bM_next 81 = .ok (.iload_n 1, 1) := by decide +kernel
theorem dM_next_82 : decode bM_next 82 = .ok (.invokestatic 137, 3) := by decide +kernel
theorem dM_next_85 : decode bM_next 85 = .ok (.ifCond .ne 65, 3) := by decide +kernel
theorem dM_next_88 : decode bM_next 88 = .ok (.aload_n 0, 1) := by decide +kernel
theorem dM_next_89 : decode bM_next 89 = .ok (.dup, 1) := by decide +kernel
theorem dM_next_90 : decode bM_next 90 = .ok (.getfield 113, 3) := by decide +kernel
theorem dM_next_93 : decode bM_next 93 = .ok (.iconst 1, 1) := by decide +kernel
theorem dM_next_94 : decode bM_next 94 = .ok (.iadd, 1) := by decide +kernel
theorem dM_next_95 : decode bM_next 95 = .ok (.putfield 113, 3) := by decide +kernel
theorem dM_next_98 : decode bM_next 98 = .ok (.aload_n 0, 1) := by decide +kernel
theorem dM_next_99 : decode bM_next 99 = .ok (.iload_n 1, 1) := by decide +kernel
theorem dM_next_100 : decode bM_next 100 = .ok (.bipush 40, 2) := by decide +kernel
theorem dM_next_102 : decode bM_next 102 = .ok (.if_icmp .eq 39, 3) := by decide +kernel
theorem dM_next_105 : decode bM_next 105 = .ok (.iload_n 1, 1) := by decide +kernel
theorem dM_next_106 : decode bM_next 106 = .ok (.bipush 41, 2) := by decide +kernel
theorem dM_next_108 : decode bM_next 108 = .ok (.if_icmp .eq 33, 3) := by decide +kernel
theorem dM_next_111 : decode bM_next 111 = .ok (.iload_n 1, 1) := by decide +kernel
theorem dM_next_112 : decode bM_next 112 = .ok (.bipush 44, 2) := by decide +kernel
theorem dM_next_114 : decode bM_next 114 = .ok (.if_icmp .eq 27, 3) := by decide +kernel
theorem dM_next_117 : decode bM_next 117 = .ok (.iload_n 1, 1) := by decide +kernel
theorem dM_next_118 : decode bM_next 118 = .ok (.bipush 61, 2) := by decide +kernel
theorem dM_next_120 : decode bM_next 120 = .ok (.if_icmp .eq 21, 3) := by decide +kernel
theorem dM_next_123 : decode bM_next 123 = .ok (.iload_n 1, 1) := by decide +kernel
theorem dM_next_124 : decode bM_next 124 = .ok (.bipush 43, 2) := by decide +kernel
theorem dM_next_126 : decode bM_next 126 = .ok (.if_icmp .eq 15, 3) := by decide +kernel
theorem dM_next_129 : decode bM_next 129 = .ok (.iload_n 1, 1) := by decide +kernel
theorem dM_next_130 : decode bM_next 130 = .ok (.bipush 45, 2) := by decide +kernel
theorem dM_next_132 : decode bM_next 132 = .ok (.if_icmp .eq 9, 3) := by decide +kernel
theorem dM_next_135 : decode bM_next 135 = .ok (.iload_n 1, 1) := by decide +kernel
theorem dM_next_136 : decode bM_next 136 = .ok (.bipush 38, 2) := by decide +kernel
theorem dM_next_138 : decode bM_next 138 = .ok (.if_icmp .ne 7, 3) := by decide +kernel
theorem dM_next_141 : decode bM_next 141 = .ok (.iload_n 1, 1) := by decide +kernel
theorem dM_next_142 : decode bM_next 142 = .ok (.goto 4, 3) := by decide +kernel
theorem dM_next_145 : decode bM_next 145 = .ok (.iconst 1, 1) := by decide +kernel
theorem dM_next_146 : decode bM_next 146 = .ok (.putfield 134, 3) := by decide +kernel
theorem dM_next_149 : decode bM_next 149 = .ok (.return_, 1) := by decide +kernel
theorem dM_next_150 : decode bM_next 150 = .ok (.aload_n 0, 1) := by decide +kernel
theorem dM_next_151 : decode bM_next 151 = .ok (.getfield 113, 3) := by decide +kernel
theorem dM_next_154 : decode bM_next 154 = .ok (.aload_n 0, 1) := by decide +kernel
theorem dM_next_155 : decode bM_next 155 = .ok (.getfield 101, 3) := by decide +kernel
theorem dM_next_158 : decode bM_next 158 = .ok (.if_icmp .ge 31, 3) := by decide +kernel
theorem dM_next_161 : decode bM_next 161 = .ok (.aload_n 0, 1) := by decide +kernel
theorem dM_next_162 : decode bM_next 162 = .ok (.getfield 25, 3) := by decide +kernel
theorem dM_next_165 : decode bM_next 165 = .ok (.aload_n 0, 1) := by decide +kernel
theorem dM_next_166 : decode bM_next 166 = .ok (.getfield 113, 3) := by decide +kernel
theorem dM_next_169 : decode bM_next 169 = .ok (.iaload, 1) := by decide +kernel
theorem dM_next_170 : decode bM_next 170 = .ok (.invokestatic 137, 3) := by decide +kernel
theorem dM_next_173 : decode bM_next 173 = .ok (.ifCond .eq 16, 3) := by decide +kernel
theorem dM_next_176 : decode bM_next 176 = .ok (.aload_n 0, 1) := by decide +kernel
theorem dM_next_177 : decode bM_next 177 = .ok (.dup, 1) := by decide +kernel
theorem dM_next_178 : decode bM_next 178 = .ok (.getfield 113, 3) := by decide +kernel
theorem dM_next_181 : decode bM_next 181 = .ok (.iconst 1, 1) := by decide +kernel
theorem dM_next_182 : decode bM_next 182 = .ok (.iadd, 1) := by decide +kernel
theorem dM_next_183 : decode bM_next 183 = .ok (.putfield 113, 3) := by decide +kernel
theorem dM_next_186 : decode bM_next 186 = .ok (.goto (-36), 3) := by decide +kernel
theorem dM_next_189 : decode bM_next 189 = .ok (.aload_n 0, 1) := by decide +kernel
theorem dM_next_190 : decode bM_next 190 = .ok (.getfield 113, 3) := by decide +kernel
theorem dM_next_193 : decode bM_next 193 = .ok (.aload_n 0, 1) := by decide +kernel
theorem dM_next_194 : decode bM_next 194 = .ok (.getfield 110, 3) := by decide +kernel
theorem dM_next_197 : decode bM_next 197 = .ok (.isub, 1) := by decide +kernel
theorem dM_next_198 : decode bM_next 198 = .ok (.istore_n 2, 1) := by decide +kernel
theorem dM_next_199 : decode bM_next 199 = .ok (.aload_n 0, 1) := by decide +kernel
theorem dM_next_200 : decode bM_next 200 = .ok (.getfield 25, 3) := by decide +kernel
theorem dM_next_203 : decode bM_next 203 = .ok (.aload_n 0, 1) := by decide +kernel
theorem dM_next_204 : decode bM_next 204 = .ok (.getfield 113, 3) := by decide +kernel
theorem dM_next_207 : decode bM_next 207 = .ok (.iconst 1, 1) := by decide +kernel
theorem dM_next_208 : decode bM_next 208 = .ok (.isub, 1) := by decide +kernel
theorem dM_next_209 : decode bM_next 209 = .ok (.iaload, 1) := by decide +kernel
theorem dM_next_210 : decode bM_next 210 = .ok (.bipush 48, 2) := by decide +kernel
theorem dM_next_212 : decode bM_next 212 = .ok (.isub, 1) := by decide +kernel
theorem dM_next_213 : decode bM_next 213 = .ok (.istore_n 3, 1) := by decide +kernel
theorem dM_next_214 : decode bM_next 214 = .ok (.iload_n 2, 1) := by decide +kernel
theorem dM_next_215 : decode bM_next 215 = .ok (.iconst 2, 1) := by decide +kernel
theorem dM_next_216 : decode bM_next 216 = .ok (.if_icmp .ne 53, 3) := by decide +kernel
theorem dM_next_219 : decode bM_next 219 = .ok (.iload_n 1, 1) := by decide +kernel
theorem dM_next_220 : decode bM_next 220 = .ok (.bipush 97, 2) := by decide +kernel
theorem dM_next_222 : decode bM_next 222 = .ok (.if_icmp .lt 47, 3) := by decide +kernel
theorem dM_next_225 : decode bM_next 225 = .ok (.iload_n 1, 1) := by decide +kernel
theorem dM_next_226 : decode bM_next 226 = .ok (.bipush 102, 2) := by decide +kernel
theorem dM_next_228 : decode bM_next 228 = .ok (.if_icmp .gt 41, 3) := by decide +kernel
theorem dM_next_231 : decode bM_next 231 = .ok (.aload_n 0, 1) := by decide +kernel
theorem dM_next_232 : decode bM_next 232 = .ok (.getfield 25, 3) := by decide +kernel
theorem dM_next_235 : decode bM_next 235 = .ok (.aload_n 0, 1) := by decide +kernel
theorem dM_next_236 : decode bM_next 236 = .ok (.getfield 110, 3) := by decide +kernel
theorem dM_next_239 : decode bM_next 239 = .ok (.iconst 1, 1) := by decide +kernel
theorem dM_next_240 : decode bM_next 240 = .ok (.iadd, 1) := by decide +kernel
theorem dM_next_241 : decode bM_next 241 = .ok (.iaload, 1) := by decide +kernel
theorem dM_next_242 : decode bM_next 242 = .ok (.invokestatic 104, 3) := by decide +kernel
theorem dM_next_245 : decode bM_next 245 = .ok (.ifCond .eq 24, 3) := by decide +kernel
theorem dM_next_248 : decode bM_next 248 = .ok (.aload_n 0, 1) := by decide +kernel
theorem dM_next_249 : decode bM_next 249 = .ok (.iconst 2, 1) := by decide +kernel
theorem dM_next_250 : decode bM_next 250 = .ok (.putfield 134, 3) := by decide +kernel
theorem dM_next_253 : decode bM_next 253 = .ok (.aload_n 0, 1) := by decide +kernel
theorem dM_next_254 : decode bM_next 254 = .ok (.bipush 10, 2) := by decide +kernel
theorem dM_next_256 : decode bM_next 256 = .ok (.iload_n 1, 1) := by decide +kernel
theorem dM_next_257 : decode bM_next 257 = .ok (.bipush 97, 2) := by decide +kernel
theorem dM_next_259 : decode bM_next 259 = .ok (.isub, 1) := by decide +kernel
theorem dM_next_260 : decode bM_next 260 = .ok (.imul, 1) := by decide +kernel
theorem dM_next_261 : decode bM_next 261 = .ok (.iload_n 3, 1) := by decide +kernel
theorem dM_next_262 : decode bM_next 262 = .ok (.iadd, 1) := by decide +kernel
theorem dM_next_263 : decode bM_next 263 = .ok (.putfield 140, 3) := by decide +kernel
theorem dM_next_266 : decode bM_next 266 = .ok (.goto 103, 3) := by decide +kernel
theorem dM_next_269 : decode bM_next 269 = .ok (.iload_n 2, 1) := by decide +kernel
theorem dM_next_270 : decode bM_next 270 = .ok (.iconst 1, 1) := by decide +kernel
