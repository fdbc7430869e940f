theorem dM_add_41 : decode bM_add 41 = .ok (.iastore, 1) := by decide +kernel
theorem dM_add_42 : decode bM_add 42 = .ok (.return_, 1) := by decide +kernel
theorem dM_replace_0 : decode bM_replace 0 = .ok (.aload_n 0, 1) := by decide +kernel
theorem dM_replace_1 : decode bM_replace 1 = .ok (.getfield 183, 3) := by decide +kernel
theorem dM_replace_4 : decode bM_replace 4 = .ok (.iconst 1, 1) := by decide +kernel
theorem dM_replace_5 : decode bM_replace 5 = .ok (.isub, 1) := by decide +kernel
theorem dM_replace_6 : decode bM_replace 6 = .ok (.iload_n 1, 1) := by decide +kernel
theorem dM_replace_7 : decode bM_replace 7 = .ok (.isub, 1) := by decide +kernel
theorem dM_replace_8 : decode bM_replace 8 = .ok (.istore_n 2, 1) := by decide +kernel
theorem dM_replace_9 : decode bM_replace 9 = .ok (.iconst 0, 1) := by decide +kernel
theorem dM_replace_10 : decode bM_replace 10 = .ok (.istore_n 3, 1) := by decide +kernel
theorem dM_replace_11 : decode bM_replace 11 = .ok (.iload_n 3, 1) := by decide +kernel
theorem dM_replace_12 : decode bM_replace 12 = .ok (.aload_n 0, 1) := by decide +kernel
theorem dM_replace_13 : decode bM_replace 13 = .ok (.getfield 52, 3) := by decide +kernel
theorem dM_replace_16 : decode bM_replace 16 = .ok (.aload_n 0, 1) := by decide +kernel
theorem dM_replace_17 : decode bM_replace 17 = .ok (.getfield 183, 3) := by decide +kernel
theorem dM_replace_20 : decode bM_replace 20 = .ok (.iconst 1, 1) := by decide +kernel
theorem dM_replace_21 : decode bM_replace 21 = .ok (.isub, 1) := by decide +kernel
theorem dM_replace_22 : decode bM_replace 22 = .ok (.iaload, 1) := by decide +kernel
theorem dM_replace_23 : decode bM_replace 23 = .ok (.if_icmp .ge 36, 3) := by decide +kernel
theorem dM_replace_26 : decode bM_replace 26 = .ok (.aload_n 0, 1) := by decide +kernel
theorem dM_replace_27 : decode bM_replace 27 = .ok (.getfield 49, 3) := by decide +kernel
theorem dM_replace_30 : decode bM_replace 30 = .ok (.bipush 30, 2) := by decide +kernel
theorem dM_replace_32 : decode bM_replace 32 = .ok (.iload_n 2, 1) := by decide +kernel
theorem dM_replace_33 : decode bM_replace 33 = .ok (.imul, 1) := by decide +kernel
theorem dM_replace_34 : decode bM_replace 34 = .ok (.iload_n 3, 1) := by decide +kernel
theorem dM_replace_35 : decode bM_replace 35 = .ok (.iadd, 1) := by decide +kernel
theorem dM_replace_36 : decode bM_replace 36 = .ok (.aload_n 0, 1) := by decide +kernel
theorem dM_replace_37 : decode bM_replace 37 = .ok (.getfield 49, 3) := by decide +kernel
theorem dM_replace_40 : decode bM_replace 40 = .ok (.bipush 30, 2) := by decide +kernel
theorem dM_replace_42 : decode bM_replace 42 = .ok (.aload_n 0, 1) := by decide +kernel
theorem dM_replace_43 : decode bM_replace 43 = .ok (.getfield 183, 3) := by decide +kernel
theorem dM_replace_46 : decode bM_replace 46 = .ok (.iconst 1, 1) := by decide +kernel
theorem dM_replace_47 : decode bM_replace 47 = .ok (.isub, 1) := by decide +kernel
theorem dM_replace_48 : decode bM_replace 48 = .ok (.imul, 1) := by decide +kernel
theorem dM_replace_49 : decode bM_replace 49 = .ok (.iload_n 3, 1) := by decide +kernel
theorem dM_replace_50 : decode bM_replace 50 = .ok (.iadd, 1) := by decide +kernel
theorem dM_replace_51 : decode bM_replace 51 = .ok (.iaload, 1) := by decide +kernel
theorem dM_replace_52 : decode bM_replace 52 = .ok (.iastore, 1) := by decide +kernel
theorem dM_replace_53 : decode bM_replace 53 = .ok (.iinc 3 1, 3) := by decide +kernel
theorem dM_replace_56 : decode bM_replace 56 = .ok (.goto (-45), 3) := by decide +kernel
theorem dM_replace_59 : decode bM_replace 59 = .ok (.aload_n 0, 1) := by decide +kernel
theorem dM_replace_60 : decode bM_replace 60 = .ok (.getfield 52, 3) := by decide +kernel
theorem dM_replace_63 : decode bM_replace 63 = .ok (.iload_n 2, 1) := by decide +kernel
theorem dM_replace_64 : decode bM_replace 64 = .ok (.aload_n 0, 1) := by decide +kernel
theorem dM_replace_65 : decode bM_replace 65 = .ok (.getfield 52, 3) := by decide +kernel
theorem dM_replace_68 : decode bM_replace 68 = .ok (.aload_n 0, 1) := by decide +kernel
theorem dM_replace_69 : decode bM_replace 69 = .ok (.getfield 183, 3) := by decide +kernel
theorem dM_replace_72 : decode bM_replace 72 = .ok (.iconst 1, 1) := by decide +kernel
theorem dM_replace_73 : decode bM_replace 73 = .ok (.isub, 1) := by decide +kernel
theorem dM_replace_74 : decode bM_replace 74 = .ok (.iaload, 1) := by decide +kernel
theorem dM_replace_75 : decode bM_replace 75 = .ok (.iastore, 1) := by decide +kernel
theorem dM_replace_76 : decode bM_replace 76 = .ok (.aload_n 0, 1) := by decide +kernel
theorem dM_replace_77 : decode bM_replace 77 = .ok (.iload_n 2, 1) := by decide +kernel
theorem dM_replace_78 : decode bM_replace 78 = .ok (.iconst 1, 1) := by decide +kernel
theorem dM_replace_79 : decode bM_replace 79 = .ok (.iadd, 1) := by decide +kernel
theorem dM_replace_80 : decode bM_replace 80 = .ok (.putfield 183, 3) := by decide +kernel
theorem dM_replace_83 : decode bM_replace 83 = .ok (.aload_n 0, 1) := by decide +kernel
theorem dM_replace_84 : decode bM_replace 84 = .ok (.dup, 1) := by decide +kernel
theorem dM_replace_85 : decode bM_replace 85 = .ok (.getfield 190, 3) := by decide +kernel
theorem dM_replace_88 : decode bM_replace 88 = .ok (.aload_n 0, 1) := by decide +kernel
theorem dM_replace_89 : decode bM_replace 89 = .ok (.getfield 52, 3) := by decide +kernel
theorem dM_replace_92 : decode bM_replace 92 = .ok (.iload_n 2, 1) := by decide +kernel
theorem dM_replace_93 : decode bM_replace 93 = .ok (.iaload, 1) := by decide +kernel
theorem dM_replace_94 : decode bM_replace 94 = .ok (.iadd, 1) := by decide +kernel
theorem dM_replace_95 : decode bM_replace 95 = .ok (.putfield 190, 3) := by decide +kernel
theorem dM_replace_98 : decode bM_replace 98 = .ok (.return_, 1) := by decide +kernel
theorem dM_join_0 : decode bM_join 0 = .ok (.aload_n 0, 1) := by decide +kernel
theorem dM_join_1 : decode bM_join 1 = .ok (.invokevirtual 193, 3) := by decide +kernel
theorem dM_join_4 : decode bM_join 4 = .ok (.aload_n 0, 1) := by decide +kernel
theorem dM_join_5 : decode bM_join 5 = .ok (.getfield 183, 3) := by decide +kernel
theorem dM_join_8 : decode bM_join 8 = .ok (.iconst 3, 1) := by decide +kernel
theorem dM_join_9 : decode bM_join 9 = .ok (.isub, 1) := by decide +kernel
theorem dM_join_10 : decode bM_join 10 = .ok (.istore_n 2, 1) := by decide +kernel
theorem dM_join_11 : decode bM_join 11 = .ok (.aload_n 0, 1) := by decide +kernel
theorem dM_join_12 : decode bM_join 12 = .ok (.getfield 183, 3) := by decide +kernel
theorem dM_join_15 : decode bM_join 15 = .ok (.iconst 2, 1) := by decide +kernel
theorem dM_join_16 : decode bM_join 16 = .ok (.isub, 1) := by decide +kernel
theorem dM_join_17 : decode bM_join 17 = .ok (.istore_n 3, 1) := by decide +kernel
theorem dM_join_18 : decode bM_join 18 = .ok (.iconst 0, 1) := by decide +kernel
theorem dM_join_19 : decode bM_join 19 = .ok (.istore 4, 2) := by decide +kernel
theorem dM_join_21 : decode bM_join 21 = .ok (.iload 4, 2) := by decide +kernel
theorem dM_join_23 : decode bM_join 23 = .ok (.aload_n 0, 1) := by decide +kernel
theorem dM_join_24 : decode bM_join 24 = .ok (.getfield 52, 3) := by decide +kernel
theorem dM_join_27 : decode bM_join 27 = .ok (.iload_n 2, 1) := by decide +kernel
theorem dM_join_28 : decode bM_join 28 = .ok (.iaload, 1) := by decide +kernel
theorem dM_join_29 : decode bM_join 29 = .ok (.if_icmp .ge 69, 3) := by decide +kernel
theorem dM_join_32 : decode bM_join 32 = .ok (.aload_n 0, 1) := by decide +kernel
theorem dM_join_33 : decode bM_join 33 = .ok (.getfield 49, 3) := by decide +kernel
theorem dM_join_36 : decode bM_join 36 = .ok (.bipush 30, 2) := by decide +kernel
theorem dM_join_38 : decode bM_join 38 = .ok (.iload_n 2, 1) := by decide +kernel
theorem dM_join_39 : decode bM_join 39 = .ok (.imul, 1) := by decide +kernel
theorem dM_join_40 : decode bM_join 40 = .ok (.iload 4, 2) := by decide +kernel
theorem dM_join_42 : decode bM_join 42 = .ok (.iadd, 1) := by decide +kernel
theorem dM_join_43 : decode bM_join 43 = .ok (.iaload, 1) := by decide +kernel
theorem dM_join_44 : decode bM_join 44 = .ok (.istore 5, 2) := by decide +kernel
theorem dM_join_46 : decode bM_join 46 = .ok (.aload_n 0, 1) := by decide +kernel
theorem dM_join_47 : decode bM_join 47 = .ok (.bipush 30, 2) := by decide +kernel
theorem dM_join_49 : decode bM_join 49 = .ok (.iload_n 3, 1) := by decide +kernel
theorem dM_join_50 : decode bM_join 50 = .ok (.imul, 1) := by decide +kernel
theorem dM_join_51 : decode bM_join 51 = .ok (.aload_n 0, 1) := by decide +kernel
theorem dM_join_52 : decode bM_join 52 = .ok (.getfield 52, 3) := by decide +kernel
theorem dM_join_55 : decode bM_join 55 = .ok (.iload_n 3, 1) := by decide +kernel
theorem dM_join_56 : decode bM_join 56 = .ok (.iaload, 1) := by decide +kernel
theorem dM_join_57 : decode bM_join 57 = .ok (.iload 5, 2) := by decide +kernel
theorem dM_join_59 : decode bM_join 59 = .ok (.invokevirtual 186, 3) := by decide +kernel
theorem dM_join_62 : decode bM_join 62 = .ok (.istore 6, 2) := by decide +kernel
theorem dM_join_64 : decode bM_join 64 = .ok (.iload_n 1, 1) := by decide +kernel
theorem dM_join_65 : decode bM_join 65 = .ok (.bipush 43, 2) := by decide +kernel
theorem dM_join_67 : decode bM_join 67 = .ok (.if_icmp .eq 19, 3) := by decide +kernel
theorem dM_join_70 : decode bM_join 70 = .ok (.iload 6, 2) := by decide +kernel
theorem dM_join_72 : decode bM_join 72 = .ok (.iload_n 1, 1) := by decide +kernel
theorem dM_join_73 : decode bM_join 73 = .ok (.bipush 38, 2) := by decide +kernel
theorem dM_join_75 : decode bM_join 75 = .ok (.if_icmp .ne 7, 3) := by decide +kernel
theorem dM_join_78 : decode bM_join 78 = .ok (.iconst 1, 1) := by decide +kernel
theorem dM_join_79 : decode bM_join 79 = .ok (.goto 4, 3) := by decide +kernel
theorem dM_join_82 : decode bM_join 82 = .ok (.iconst 0, 1) := by decide +kernel
theorem dM_join_83 : decode bM_join 83 = .ok (.if_icmp .ne 9, 3) := by decide +kernel
theorem dM_join_86 : decode bM_join 86 = .ok (.aload_n 0, 1) := by decide +kernel
theorem dM_join_87 : decode bM_join 87 = .ok (.iload 5, 2) := by decide +kernel
theorem dM_join_89 : decode bM_join 89 = .ok (.invokevirtual 196, 3) := by decide +kernel
theorem dM_join_92 : decode bM_join 92 = .ok (.iinc 4 1, 3) := by decide +kernel
theorem dM_join_95 : decode bM_join 95 = .ok (.goto (-74), 3) := by decide +kernel
theorem dM_join_98 : decode bM_join 98 = .ok (.iconst 0, 1) := by decide +kernel
theorem dM_join_99 : decode bM_join 99 = .ok (.istore 4, 2) := by decide +kernel
theorem dM_join_101 : decode bM_join 101 = .ok (.iload 4, 2) := by decide +kernel
theorem dM_join_103 : decode bM_join 103 = .ok (.aload_n 0, 1) := by decide +kernel
theorem dM_join_104 : decode bM_join 104 = .ok (.getfield 52, 3) := by decide +kernel
theorem dM_join_107 : decode bM_join 107 = .ok (.iload_n 3, 1) := by decide +kernel
theorem dM_join_108 : decode bM_join 108 = .ok (.iaload, 1) := by decide +kernel
theorem dM_join_109 : decode bM_join 109 = .ok (.if_icmp .ge 60, 3) := by decide +kernel
theorem dM_join_112 : decode bM_join 112 = .ok (.iload_n 1, 1) := by decide +kernel
theorem dM_join_113 : decode bM_join 113 = .ok (.bipush 43, 2) := by decide +kernel
theorem dM_join_115 : decode bM_join 115 = .ok (.if_icmp .ne 54, 3) := by decide +kernel
theorem dM_join_118 : decode bM_join 118 = .ok (.aload_n 0, 1) := by decide +kernel
theorem dM_join_119 : decode bM_join 119 = .ok (.bipush 30, 2) := by decide +kernel
theorem dM_join_121 : decode bM_join 121 = .ok (.iload_n 2, 1) := by decide +kernel
theorem dM_join_122 : decode bM_join 122 = .ok (.imul, 1) := by decide +kernel
theorem dM_join_123 : decode bM_join 123 = .ok (.aload_n 0, 1) := by decide +kernel
theorem dM_join_124 : decode bM_join 124 = .ok (.getfield 52, 3) := by decide +kernel
theorem dM_join_127 : decode bM_join 127 = .ok (.iload_n 2, 1) := by decide +kernel
theorem dM_join_128 : decode bM_join 128 = .ok (.iaload, 1) := by decide +kernel
theorem dM_join_129 : decode bM_join 129 = .ok (.aload_n 0, 1) := by decide +kernel
theorem dM_join_130 : decode bM_join 130 = .ok (.getfield 49, 3) := by decide +kernel
theorem dM_join_133 : decode bM_join 133 = .ok (.bipush 30, 2) := by decide +kernel
theorem dM_join_135 : decode bM_join 135 = .ok (.iload_n 3, 1) := by decide +kernel
theorem dM_join_136 : decode bM_join 136 = .ok (.imul, 1) := by decide +kernel
theorem dM_join_137 : decode bM_join 137 = .ok (.iload 4, 2) := by decide +kernel
theorem dM_join_139 : decode bM_join 139 = .ok (.iadd, 1) := by decide +kernel
theorem dM_join_140 : decode bM_join 140 = .ok (.iaload, 1) := by decide +kernel
theorem dM_join_141 : decode bM_join 141 = .ok (.invokevirtual 186, 3) := by decide +kernel
theorem dM_join_144 : decode bM_join 144 = .ok (.ifCond .ne 19, 3) := by decide +kernel
theorem dM_join_147 : decode bM_join 147 = .ok (.aload_n 0, 1) := by decide +kernel
theorem dM_join_148 : decode bM_join 148 = .ok (.aload_n 0, 1) := by decide +kernel
theorem dM_join_149 : decode bM_join 149 = .ok (.getfield 49, 3) := by decide +kernel
theorem dM_join_152 : decode bM_join 152 = .ok (.bipush 30, 2) := by decide +kernel
theorem dM_join_154 : decode bM_join 154 = .ok (.iload_n 3, 1) := by decide +kernel
theorem dM_join_155 : decode bM_join 155 = .ok (.imul, 1) := by decide +kernel
theorem dM_join_156 : decode bM_join 156 = .ok (.iload 4, 2) := by decide +kernel
theorem dM_join_158 : decode bM_join 158 = .ok (.iadd, 1) := by decide +kernel
theorem dM_join_159 : decode bM_join 159 = .ok (.iaload, 1) := by decide +kernel
theorem dM_join_160 : decode bM_join 160 = .ok (.invokevirtual 196, 3) := by decide +kernel
theorem dM_join_163 : decode bM_join 163 = .ok (.iinc 4 1, 3) := by decide +kernel
theorem dM_join_166 : decode bM_join 166 = .ok (.goto (-65), 3) := by decide +kernel
theorem dM_join_169 : decode bM_join 169 = .ok (.aload_n 0, 1) := by decide +kernel
theorem dM_join_170 : decode bM_join 170 = .ok (.iconst 2, 1) := by decide +kernel
theorem dM_join_171 : decode bM_join 171 = .ok (.invokevirtual 199, 3) := by decide +kernel
theorem dM_join_174 : decode bM_join 174 = .ok (.return_, 1) := by decide +kernel
theorem dM_reach_0 : decode bM_reach 0 = .ok (.aload_n 0, 1) := by decide +kernel
theorem dM_reach_1 : decode bM_reach 1 = .ok (.getfield 183, 3) := by decide +kernel
theorem dM_reach_4 : decode bM_reach 4 = .ok (.iconst 1, 1) := by decide +kernel
theorem dM_reach_5 : decode bM_reach 5 = .ok (.isub, 1) := by decide +kernel
theorem dM_reach_6 : decode bM_reach 6 = .ok (.istore_n 3, 1) := by decide +kernel
theorem dM_reach_7 : decode bM_reach 7 = .ok (.aload_n 0, 1) := by decide +kernel
theorem dM_reach_8 : decode bM_reach 8 = .ok (.invokevirtual 193, 3) := by decide +kernel
theorem dM_reach_11 : decode bM_reach 11 = .ok (.iconst 0, 1) := by decide +kernel
theorem dM_reach_12 : decode bM_reach 12 = .ok (.istore 4, 2) := by decide +kernel
theorem dM_reach_14 : decode bM_reach 14 = .ok (.iload 4, 2) := by decide +kernel
theorem dM_reach_16 : decode bM_reach 16 = .ok (.aload_n 0, 1) := by decide +kernel
theorem dM_reach_17 : decode bM_reach 17 = .ok (.getfield 52, 3) := by decide +kernel
theorem dM_reach_20 : decode bM_reach 20 = .ok (.iload_n 3, 1) := by decide +kernel
theorem dM_reach_21 : decode bM_reach 21 = .ok (.iaload, 1) := by decide +kernel
theorem dM_reach_22 : decode bM_reach 22 = .ok (.if_icmp .ge 61, 3) := by decide +kernel
theorem dM_reach_25 : decode bM_reach 25 = .ok (.aload_n 0, 1) := by decide +kernel
theorem dM_reach_26 : decode bM_reach 26 = .ok (.aload_n 0, 1) := by decide +kernel
theorem dM_reach_27 : decode bM_reach 27 = .ok (.getfield 49, 3) := by decide +kernel
theorem dM_reach_30 : decode bM_reach 30 = .ok (.bipush 30, 2) := by decide +kernel
theorem dM_reach_32 : decode bM_reach 32 = .ok (.iload_n 3, 1) := by decide +kernel
theorem dM_reach_33 : decode bM_reach 33 = .ok (.imul, 1) := by decide +kernel
theorem dM_reach_34 : decode bM_reach 34 = .ok (.iload 4, 2) := by decide +kernel
theorem dM_reach_36 : decode bM_reach 36 = .ok (.iadd, 1) := by decide +kernel
theorem dM_reach_37 : decode bM_reach 37 = .ok (.iaload, 1) := by decide +kernel
theorem dM_reach_38 : decode bM_reach 38 = .ok (.invokevirtual 196, 3) := by decide +kernel
theorem dM_reach_41 : decode bM_reach 41 = .ok (.aload_n 0, 1) := by decide +kernel
theorem dM_reach_42 : decode bM_reach 42 = .ok (.getfield 67, 3) := by decide +kernel
theorem dM_reach_45 : decode bM_reach 45 = .ok (.aload_n 0, 1) := by decide +kernel
theorem dM_reach_46 : decode bM_reach 46 = .ok (.getfield 49, 3) := by decide +kernel
theorem dM_reach_49 : decode bM_reach 49 = .ok (.bipush 30, 2) := by decide +kernel
theorem dM_reach_51 : decode bM_reach 51 = .ok (.iload_n 3, 1) := by decide +kernel
theorem dM_reach_52 : decode bM_reach 52 = .ok (.imul, 1) := by decide +kernel
theorem dM_reach_53 : decode bM_reach 53 = .ok (.iload 4, 2) := by decide +kernel
theorem dM_reach_55 : decode bM_reach 55 = .ok (.iadd, 1) := by decide +kernel
theorem dM_reach_56 : decode bM_reach 56 = .ok (.iaload, 1) := by decide +kernel
theorem dM_reach_57 : decode bM_reach 57 = .ok (.iconst (-1), 1) := by decide +kernel
theorem dM_reach_58 : decode bM_reach 58 = .ok (.iastore, 1) := by decide +kernel
theorem dM_reach_59 : decode bM_reach 59 = .ok (.aload_n 0, 1) := by decide +kernel
theorem dM_reach_60 : decode bM_reach 60 = .ok (.getfield 70, 3) := by decide +kernel
theorem dM_reach_63 : decode bM_reach 63 = .ok (.aload_n 0, 1) := by decide +kernel
theorem dM_reach_64 : decode bM_reach 64 = .ok (.getfield 49, 3) := by decide +kernel
theorem dM_reach_67 : decode bM_reach 67 = .ok (.bipush 30, 2) := by decide +kernel
theorem dM_reach_69 : decode bM_reach 69 = .ok (.iload_n 3, 1) := by decide +kernel
theorem dM_reach_70 : decode bM_reach 70 = .ok (.imul, 1) := by decide +kernel
theorem dM_reach_71 : decode bM_reach 71 = .ok (.iload 4, 2) := by decide +kernel
theorem dM_reach_73 : decode bM_reach 73 = .ok (.iadd, 1) := by decide +kernel
theorem dM_reach_74 : decode bM_reach 74 = .ok (.iaload, 1) := by decide +kernel
theorem dM_reach_75 : decode bM_reach 75 = .ok (.iconst 0, 1) := by decide +kernel
theorem dM_reach_76 : decode bM_reach 76 = .ok (.iastore, 1) := by decide +kernel
theorem dM_reach_77 : decode bM_reach 77 = .ok (.iinc 4 1, 3) := by decide +kernel
theorem dM_reach_80 : decode bM_reach 80 = .ok (.goto (-66), 3) := by decide +kernel
theorem dM_reach_83 : decode bM_reach 83 = .ok (.iconst 0, 1) := by decide +kernel
theorem dM_reach_84 : decode bM_reach 84 = .ok (.istore 4, 2) := by decide +kernel
theorem dM_reach_86 : decode bM_reach 86 = .ok (.iload 4, 2) := by decide +kernel
theorem dM_reach_88 : decode bM_reach 88 = .ok (.aload_n 0, 1) := by decide +kernel
theorem dM_reach_89 : decode bM_reach 89 = .ok (.getfield 52, 3) := by decide +kernel
theorem dM_reach_92 : decode bM_reach 92 = .ok (.aload_n 0, 1) := by decide +kernel
theorem dM_reach_93 : decode bM_reach 93 = .ok (.getfield 183, 3) := by decide +kernel
theorem dM_reach_96 : decode bM_reach 96 = .ok (.iconst 1, 1) := by decide +kernel
theorem dM_reach_97 : decode bM_reach 97 = .ok (.isub, 1) := by decide +kernel
theorem dM_reach_98 : decode bM_reach 98 = .ok (.iaload, 1) := by decide +kernel
theorem dM_reach_99 : decode bM_reach 99 = .ok (.if_icmp .ge 161, 3) := by decide +kernel
theorem dM_reach_102 : decode bM_reach 102 = .ok (.aload_n 0, 1) := by decide +kernel
theorem dM_reach_103 : decode bM_reach 103 = .ok (.getfield 49, 3) := by decide +kernel
theorem dM_reach_106 : decode bM_reach 106 = .ok (.bipush 30, 2) := by decide +kernel
theorem dM_reach_108 : decode bM_reach 108 = .ok (.aload_n 0, 1) := by decide +kernel
theorem dM_reach_109 : decode bM_reach 109 = .ok (.getfield 183, 3) := by decide +kernel
theorem dM_reach_112 : decode bM_reach 112 = .ok (.iconst 1, 1) := by decide +kernel
theorem dM_reach_113 : decode bM_reach 113 = .ok (.isub, 1) := by decide +kernel
theorem dM_reach_114 : decode bM_reach 114 = .ok (.imul, 1) := by decide +kernel
theorem dM_reach_115 : decode bM_reach 115 = .ok (.iload 4, 2) := by decide +kernel
theorem dM_reach_117 : decode bM_reach 117 = .ok (.iadd, 1) := by decide +kernel
theorem dM_reach_118 : decode bM_reach 118 = .ok (.iaload, 1) := by decide +kernel
theorem dM_reach_119 : decode bM_reach 119 = .ok (.istore 5, 2) := by decide +kernel
theorem dM_reach_121 : decode bM_reach 121 = .ok (.aload_n 0, 1) := by decide +kernel
theorem dM_reach_122 : decode bM_reach 122 = .ok (.getfield 70, 3) := by decide +kernel
theorem dM_reach_125 : decode bM_reach 125 = .ok (.iload 5, 2) := by decide +kernel
theorem dM_reach_127 : decode bM_reach 127 = .ok (.iaload, 1) := by decide +kernel
theorem dM_reach_128 : decode bM_reach 128 = .ok (.iload_n 2, 1) := by decide +kernel
theorem dM_reach_129 : decode bM_reach 129 = .ok (.if_icmp .ne 6, 3) := by decide +kernel
theorem dM_reach_132 : decode bM_reach 132 = .ok (.goto 122, 3) := by decide +kernel
theorem dM_reach_135 : decode bM_reach 135 = .ok (.iload_n 1, 1) := by decide +kernel
theorem dM_reach_136 : decode bM_reach 136 = .ok (.ifCond .eq 10, 3) := by decide +kernel
theorem dM_reach_139 : decode bM_reach 139 = .ok (.aload_n 0, 1) := by decide +kernel
theorem dM_reach_140 : decode bM_reach 140 = .ok (.getfield 86, 3) := by decide +kernel
theorem dM_reach_143 : decode bM_reach 143 = .ok (.goto 10, 3) := by decide +kernel
theorem dM_reach_146 : decode bM_reach 146 = .ok (.aload_n 0, 1) := by decide +kernel
theorem dM_reach_147 : decode bM_reach 147 = .ok (.getfield 19, 3) := by decide +kernel
theorem dM_reach_150 : decode bM_reach 150 = .ok (.iload 5, 2) := by decide +kernel
theorem dM_reach_152 : decode bM_reach 152 = .ok (.iaload, 1) := by decide +kernel
theorem dM_reach_153 : decode bM_reach 153 = .ok (.istore 6, 2) := by decide +kernel
theorem dM_reach_155 : decode bM_reach 155 = .ok (.iconst 0, 1) := by decide +kernel
theorem dM_reach_156 : decode bM_reach 156 = .ok (.istore 7, 2) := by decide +kernel
theorem dM_reach_158 : decode bM_reach 158 = .ok (.iload 7, 2) := by decide +kernel
theorem dM_reach_160 : decode bM_reach 160 = .ok (.iload 6, 2) := by decide +kernel
theorem dM_reach_162 : decode bM_reach 162 = .ok (.if_icmp .ge 92, 3) := by decide +kernel
theorem dM_reach_165 : decode bM_reach 165 = .ok (.iload_n 1, 1) := by decide +kernel
theorem dM_reach_166 : decode bM_reach 166 = .ok (.ifCond .eq 8, 3) := by decide +kernel
theorem dM_reach_169 : decode bM_reach 169 = .ok (.iload 7, 2) := by decide +kernel
theorem dM_reach_171 : decode bM_reach 171 = .ok (.goto 16, 3) := by decide +kernel
theorem dM_reach_174 : decode bM_reach 174 = .ok (.aload_n 0, 1) := by decide +kernel
theorem dM_reach_175 : decode bM_reach 175 = .ok (.getfield 22, 3) := by decide +kernel
theorem dM_reach_178 : decode bM_reach 178 = .ok (.bipush 8, 2) := by decide +kernel
theorem dM_reach_180 : decode bM_reach 180 = .ok (.iload 5, 2) := by decide +kernel
theorem dM_reach_182 : decode bM_reach 182 = .ok (.imul, 1) := by decide +kernel
theorem dM_reach_183 : decode bM_reach 183 = .ok (.iload 7, 2) := by decide +kernel
theorem dM_reach_185 : decode bM_reach 185 = .ok (.iadd, 1) := by decide +kernel
theorem dM_reach_186 : decode bM_reach 186 = .ok (.iaload, 1) := by decide +kernel
theorem dM_reach_187 : decode bM_reach 187 = .ok (.istore 8, 2) := by decide +kernel
theorem dM_reach_189 : decode bM_reach 189 = .ok (.iload_n 1, 1) := by decide +kernel
theorem dM_reach_190 : decode bM_reach 190 = .ok (.ifCond .eq 14, 3) := by decide +kernel
theorem dM_reach_193 : decode bM_reach 193 = .ok (.aload_n 0, 1) := by decide +kernel
theorem dM_reach_194 : decode bM_reach 194 = .ok (.iload 7, 2) := by decide +kernel
theorem dM_reach_196 : decode bM_reach 196 = .ok (.iload 5, 2) := by decide +kernel
theorem dM_reach_198 : decode bM_reach 198 = .ok (.invokevirtual 97, 3) := by decide +kernel
theorem dM_reach_201 : decode bM_reach 201 = .ok (.ifCond .eq 47, 3) := by decide +kernel
theorem dM_reach_204 : decode bM_reach 204 = .ok (.aload_n 0, 1) := by decide +kernel
theorem dM_reach_205 : decode bM_reach 205 = .ok (.iconst 0, 1) := by decide +kernel
theorem dM_reach_206 : decode bM_reach 206 = .ok (.iload 8, 2) := by decide +kernel
theorem dM_reach_208 : decode bM_reach 208 = .ok (.invokevirtual 202, 3) := by decide +kernel
theorem dM_reach_211 : decode bM_reach 211 = .ok (.ifCond .eq 6, 3) := by decide +kernel
theorem dM_reach_214 : decode bM_reach 214 = .ok (.goto 34, 3) := by decide +kernel
theorem dM_reach_217 : decode bM_reach 217 = .ok (.aload_n 0, 1) := by decide +kernel
theorem dM_reach_218 : decode bM_reach 218 = .ok (.iload 8, 2) := by decide +kernel
theorem dM_reach_220 : decode bM_reach 220 = .ok (.invokevirtual 196, 3) := by decide +kernel
theorem dM_reach_223 : decode bM_reach 223 = .ok (.aload_n 0, 1) := by decide +kernel
theorem dM_reach_224 : decode bM_reach 224 = .ok (.getfield 67, 3) := by decide +kernel
theorem dM_reach_227 : decode bM_reach 227 = .ok (.iload 8, 2) := by decide +kernel
theorem dM_reach_229 : decode bM_reach 229 = .ok (.iload 5, 2) := by decide +kernel
theorem dM_reach_231 : decode bM_reach 231 = .ok (.iastore, 1) := by decide +kernel
theorem dM_reach_232 : decode bM_reach 232 = .ok (.aload_n 0, 1) := by decide +kernel
theorem dM_reach_233 : decode bM_reach 233 = .ok (.getfield 70, 3) := by decide +kernel
theorem dM_reach_236 : decode bM_reach 236 = .ok (.iload 8, 2) := by decide +kernel
theorem dM_reach_238 : decode bM_reach 238 = .ok (.aload_n 0, 1) := by decide +kernel
theorem dM_reach_239 : decode bM_reach 239 = .ok (.getfield 70, 3) := by decide +kernel
theorem dM_reach_242 : decode bM_reach 242 = .ok (.iload 5, 2) := by decide +kernel
theorem dM_reach_244 : decode bM_reach 244 = .ok (.iaload, 1) := by decide +kernel
theorem dM_reach_245 : decode bM_reach 245 = .ok (.iconst 1, 1) := by decide +kernel
theorem dM_reach_246 : decode bM_reach 246 = .ok (.iadd, 1) := by decide +kernel
theorem dM_reach_247 : decode bM_reach 247 = .ok (.iastore, 1) := by decide +kernel
theorem dM_reach_248 : decode bM_reach 248 = .ok (.iinc 7 1, 3) := by decide +kernel
theorem dM_reach_251 : decode bM_reach 251 = .ok (.goto (-93), 3) := by decide +kernel
theorem dM_reach_254 : decode bM_reach 254 = .ok (.iinc 4 1, 3) := by decide +kernel
theorem dM_reach_257 : decode bM_reach 257 = .ok (.goto (-171), 3) := by decide +kernel
theorem dM_reach_260 : decode bM_reach 260 = .ok (.return_, 1) := by decide +kernel
theorem dM_findWay_0 : decode bM_findWay 0 = .ok (.aload_n 0, 1) := by decide +kernel
theorem dM_findWay_1 : decode bM_findWay 1 = .ok (.getfield 183, 3) := by decide +kernel
theorem dM_findWay_4 : decode bM_findWay 4 = .ok (.iconst 1, 1) := by decide +kernel
theorem dM_findWay_5 : decode bM_findWay 5 = .ok (.isub, 1) := by decide +kernel
theorem dM_findWay_6 : decode bM_findWay 6 = .ok (.istore_n 1, 1) := by decide +kernel
theorem dM_findWay_7 : decode bM_findWay 7 = .ok (.aload_n 0, 1) := by decide +kernel
theorem dM_findWay_8 : decode bM_findWay 8 = .ok (.invokevirtual 193, 3) := by decide +kernel
theorem dM_findWay_11 : decode bM_findWay 11 = .ok (.iconst 0, 1) := by decide +kernel
theorem dM_findWay_12 : decode bM_findWay 12 = .ok (.istore_n 2, 1) := by decide +kernel
theorem dM_findWay_13 : decode bM_findWay 13 = .ok (.iload_n 2, 1) := by decide +kernel
theorem dM_findWay_14 : decode bM_findWay 14 = .ok (.aload_n 0, 1) := by decide +kernel
theorem dM_findWay_15 : decode bM_findWay 15 = .ok (.getfield 52, 3) := by decide +kernel
theorem dM_findWay_18 : decode bM_findWay 18 = .ok (.iload_n 1, 1) := by decide +kernel
theorem dM_findWay_19 : decode bM_findWay 19 = .ok (.iconst 1, 1) := by decide +kernel
theorem dM_findWay_20 : decode bM_findWay 20 = .ok (.isub, 1) := by decide +kernel
theorem dM_findWay_21 : decode bM_findWay 21 = .ok (.iaload, 1) := by decide +kernel
theorem dM_findWay_22 : decode bM_findWay 22 = .ok (.if_icmp .ge 26, 3) := by decide +kernel
theorem dM_findWay_25 : decode bM_findWay 25 = .ok (.aload_n 0, 1) := by decide +kernel
theorem dM_findWay_26 : decode bM_findWay 26 = .ok (.aload_n 0, 1) := by decide +kernel
theorem dM_findWay_27 : decode bM_findWay 27 = .ok (.getfield 49, 3) := by decide +kernel
theorem dM_findWay_30 : decode bM_findWay 30 = .ok (.bipush 30, 2) := by decide +kernel
theorem dM_findWay_32 : decode bM_findWay 32 = .ok (.iload_n 1, 1) := by decide +kernel
theorem dM_findWay_33 : decode bM_findWay 33 = .ok (.iconst 1, 1) := by decide +kernel
theorem dM_findWay_34 : decode bM_findWay 34 = .ok (.isub, 1) := by decide +kernel
theorem dM_findWay_35 : decode bM_findWay 35 = .ok (.imul, 1) := by decide +kernel
theorem dM_findWay_36 : decode bM_findWay 36 = .ok (.iload_n 2, 1) := by decide +kernel
theorem dM_findWay_37 : decode bM_findWay 37 = .ok (.iadd, 1) := by decide +kernel
theorem dM_findWay_38 : decode bM_findWay 38 = .ok (.iaload, 1) := by decide +kernel
theorem dM_findWay_39 : decode bM_findWay 39 = .ok (.invokevirtual 196, 3) := by decide +kernel
theorem dM_findWay_42 : decode bM_findWay 42 = .ok (.iinc 2 1, 3) := by decide +kernel
theorem dM_findWay_45 : decode bM_findWay 45 = .ok (.goto (-32), 3) := by decide +kernel
theorem dM_findWay_48 : decode bM_findWay 48 = .ok (.aload_n 0, 1) := by decide +kernel
theorem dM_findWay_49 : decode bM_findWay 49 = .ok (.iconst 0, 1) := by decide +kernel
theorem dM_findWay_50 : decode bM_findWay 50 = .ok (.sipush 1000, 3) := by decide +kernel
theorem dM_findWay_53 : decode bM_findWay 53 = .ok (.invokevirtual 205, 3) := by decide +kernel
theorem dM_findWay_56 : decode bM_findWay 56 = .ok (.iconst (-1), 1) := by decide +kernel
theorem dM_findWay_57 : decode bM_findWay 57 = .ok (.istore_n 2, 1) := by decide +kernel
theorem dM_findWay_58 : decode bM_findWay 58 = .ok (.iconst 0, 1) := by decide +kernel
theorem dM_findWay_59 : decode bM_findWay 59 = .ok (.istore_n 3, 1) := by decide +kernel
theorem dM_findWay_60 : decode bM_findWay 60 = .ok (.iload_n 3, 1) := by decide +kernel
theorem dM_findWay_61 : decode bM_findWay 61 = .ok (.aload_n 0, 1) := by decide +kernel
theorem dM_findWay_62 : decode bM_findWay 62 = .ok (.getfield 52, 3) := by decide +kernel
theorem dM_findWay_65 : decode bM_findWay 65 = .ok (.aload_n 0, 1) := by decide +kernel
theorem dM_findWay_66 : decode bM_findWay 66 = .ok (.getfield 183, 3) := by decide +kernel
theorem dM_findWay_69 : decode bM_findWay 69 = .ok (.iconst 1, 1) := by decide +kernel
theorem dM_findWay_70 : decode bM_findWay 70 = .ok (.isub, 1) := by decide +kernel
theorem dM_findWay_71 : decode bM_findWay 71 = .ok (.iaload, 1) := by decide +kernel
theorem dM_findWay_72 : decode bM_findWay 72 = .ok (.if_icmp .ge 58, 3) := by decide +kernel
theorem dM_findWay_75 : decode bM_findWay 75 = .ok (.iload_n 2, 1) := by decide +kernel
theorem dM_findWay_76 : decode bM_findWay 76 = .ok (.iconst (-1), 1) := by decide +kernel
theorem dM_findWay_77 : decode bM_findWay 77 = .ok (.if_icmp .ne 53, 3) := by decide +kernel
theorem dM_findWay_80 : decode bM_findWay 80 = .ok (.aload_n 0, 1) := by decide +kernel
theorem dM_findWay_81 : decode bM_findWay 81 = .ok (.getfield 49, 3) := by decide +kernel
theorem dM_findWay_84 : decode bM_findWay 84 = .ok (.bipush 30, 2) := by decide +kernel
theorem dM_findWay_86 : decode bM_findWay 86 = .ok (.aload_n 0, 1) := by decide +kernel
theorem dM_findWay_87 : decode bM_findWay 87 = .ok (.getfield 183, 3) := by decide +kernel
theorem dM_findWay_90 : decode bM_findWay 90 = .ok (.iconst 1, 1) := by decide +kernel
theorem dM_findWay_91 : decode bM_findWay 91 = .ok (.isub, 1) := by decide +kernel
theorem dM_findWay_92 : decode bM_findWay 92 = .ok (.imul, 1) := by decide +kernel
theorem dM_findWay_93 : decode bM_findWay 93 = .ok (.iload_n 3, 1) := by decide +kernel
theorem dM_findWay_94 : decode bM_findWay 94 = .ok (.iadd, 1) := by decide +kernel
theorem dM_findWay_95 : decode bM_findWay 95 = .ok (.iaload, 1) := by decide +kernel
theorem dM_findWay_96 : decode bM_findWay 96 = .ok (.istore 4, 2) := by decide +kernel
theorem dM_findWay_98 : decode bM_findWay 98 = .ok (.aload_n 0, 1) := by decide +kernel
theorem dM_findWay_99 : decode bM_findWay 99 = .ok (.bipush 30, 2) := by decide +kernel
theorem dM_findWay_101 : decode bM_findWay 101 = .ok (.iload_n 1, 1) := by decide +kernel
theorem dM_findWay_102 : decode bM_findWay 102 = .ok (.imul, 1) := by decide +kernel
theorem dM_findWay_103 : decode bM_findWay 103 = .ok (.aload_n 0, 1) := by decide +kernel
theorem dM_findWay_104 : decode bM_findWay 104 = .ok (.getfield 52, 3) := by decide +kernel
theorem dM_findWay_107 : decode bM_findWay 107 = .ok (.iload_n 1, 1) := by decide +kernel
theorem dM_findWay_108 : decode bM_findWay 108 = .ok (.iaload, 1) := by decide +kernel
theorem dM_findWay_109 : decode bM_findWay 109 = .ok (.iload 4, 2) := by decide +kernel
theorem dM_findWay_111 : decode bM_findWay 111 = .ok (.invokevirtual 186, 3) := by decide +kernel
theorem dM_findWay_114 : decode bM_findWay 114 = .ok (.ifCond .eq 8, 3) := by decide +kernel
theorem dM_findWay_117 : decode bM_findWay 117 = .ok (.iload 4, 2) := by decide +kernel
theorem dM_findWay_119 : decode bM_findWay 119 = .ok (.goto 4, 3) := by decide +kernel
theorem dM_findWay_122 : decode bM_findWay 122 = .ok (.iconst (-1), 1) := by decide +kernel
theorem dM_findWay_123 : decode bM_findWay 123 = .ok (.istore_n 2, 1) := by decide +kernel
theorem dM_findWay_124 : decode bM_findWay 124 = .ok (.iinc 3 1, 3) := by decide +kernel
theorem dM_findWay_127 : decode bM_findWay 127 = .ok (.goto (-67), 3) := by decide +kernel
theorem dM_findWay_130 : decode bM_findWay 130 = .ok (.aload_n 0, 1) := by decide +kernel
theorem dM_findWay_131 : decode bM_findWay 131 = .ok (.invokevirtual 193, 3) := by decide +kernel
theorem dM_findWay_134 : decode bM_findWay 134 = .ok (.iload_n 2, 1) := by decide +kernel
theorem dM_findWay_135 : decode bM_findWay 135 = .ok (.iconst (-1), 1) := by decide +kernel
theorem dM_findWay_136 : decode bM_findWay 136 = .ok (.if_icmp .ne 7, 3) := by decide +kernel
theorem dM_findWay_139 : decode bM_findWay 139 = .ok (.iconst 0, 1) := by decide +kernel
theorem dM_findWay_140 : decode bM_findWay 140 = .ok (.goto 11, 3) := by decide +kernel
theorem dM_findWay_143 : decode bM_findWay 143 = .ok (.aload_n 0, 1) := by decide +kernel
theorem dM_findWay_144 : decode bM_findWay 144 = .ok (.getfield 70, 3) := by decide +kernel
theorem dM_findWay_147 : decode bM_findWay 147 = .ok (.iload_n 2, 1) := by decide +kernel
theorem dM_findWay_148 : decode bM_findWay 148 = .ok (.iaload, 1) := by decide +kernel
theorem dM_findWay_149 : decode bM_findWay 149 = .ok (.iconst 1, 1) := by decide +kernel
theorem dM_findWay_150 : decode bM_findWay 150 = .ok (.iadd, 1) := by decide +kernel
theorem dM_findWay_151 : decode bM_findWay 151 = .ok (.istore_n 3, 1) := by decide +kernel
theorem dM_findWay_152 : decode bM_findWay 152 = .ok (.aload_n 0, 1) := by decide +kernel
theorem dM_findWay_153 : decode bM_findWay 153 = .ok (.getfield 52, 3) := by decide +kernel
theorem dM_findWay_156 : decode bM_findWay 156 = .ok (.aload_n 0, 1) := by decide +kernel
theorem dM_findWay_157 : decode bM_findWay 157 = .ok (.getfield 183, 3) := by decide +kernel
theorem dM_findWay_160 : decode bM_findWay 160 = .ok (.iconst 1, 1) := by decide +kernel
theorem dM_findWay_161 : decode bM_findWay 161 = .ok (.isub, 1) := by decide +kernel
theorem dM_findWay_162 : decode bM_findWay 162 = .ok (.iload_n 3, 1) := by decide +kernel
theorem dM_findWay_163 : decode bM_findWay 163 = .ok (.iastore, 1) := by decide +kernel
theorem dM_findWay_164 : decode bM_findWay 164 = .ok (.iload_n 3, 1) := by decide +kernel
theorem dM_findWay_165 : decode bM_findWay 165 = .ok (.iconst 1, 1) := by decide +kernel
theorem dM_findWay_166 : decode bM_findWay 166 = .ok (.isub, 1) := by decide +kernel
theorem dM_findWay_167 : decode bM_findWay 167 = .ok (.istore 4, 2) := by decide +kernel
theorem dM_findWay_169 : decode bM_findWay 169 = .ok (.iload 4, 2) := by decide +kernel
theorem dM_findWay_171 : decode bM_findWay 171 = .ok (.ifCond .lt 34, 3) := by decide +kernel
theorem dM_findWay_174 : decode bM_findWay 174 = .ok (.aload_n 0, 1) := by decide +kernel
theorem dM_findWay_175 : decode bM_findWay 175 = .ok (.getfield 49, 3) := by decide +kernel
theorem dM_findWay_178 : decode bM_findWay 178 = .ok (.bipush 30, 2) := by decide +kernel
theorem dM_findWay_180 : decode bM_findWay 180 = .ok (.aload_n 0, 1) := by decide +kernel
theorem dM_findWay_181 : decode bM_findWay 181 = .ok (.getfield 183, 3) := by decide +kernel
theorem dM_findWay_184 : decode bM_findWay 184 = .ok (.iconst 1, 1) := by decide +kernel
theorem dM_findWay_185 : decode bM_findWay 185 = .ok (.isub, 1) := by decide +kernel
theorem dM_findWay_186 : decode bM_findWay 186 = .ok (.imul, 1) := by decide +kernel
theorem dM_findWay_187 : decode bM_findWay 187 = .ok (.iload 4, 2) := by decide +kernel
theorem dM_findWay_189 : decode bM_findWay 189 = .ok (.iadd, 1) := by decide +kernel
theorem dM_findWay_190 : decode bM_findWay 190 = .ok (.iload_n 2, 1) := by decide +kernel
theorem dM_findWay_191 : decode bM_findWay 191 = .ok (.iastore, 1) := by decide +kernel
theorem dM_findWay_192 : decode bM_findWay 192 = .ok (.aload_n 0, 1) := by decide +kernel
theorem dM_findWay_193 : decode bM_findWay 193 = .ok (.getfield 67, 3) := by decide +kernel
theorem dM_findWay_196 : decode bM_findWay 196 = .ok (.iload_n 2, 1) := by decide +kernel
theorem dM_findWay_197 : decode bM_findWay 197 = .ok (.iaload, 1) := by decide +kernel
theorem dM_findWay_198 : decode bM_findWay 198 = .ok (.istore_n 2, 1) := by decide +kernel
theorem dM_findWay_199 : decode bM_findWay 199 = .ok (.iinc 4 (-1), 3) := by decide +kernel
theorem dM_findWay_202 : decode bM_findWay 202 = .ok (.goto (-33), 3) := by decide +kernel
theorem dM_findWay_205 : decode bM_findWay 205 = .ok (.aload_n 0, 1) := by decide +kernel
theorem dM_findWay_206 : decode bM_findWay 206 = .ok (.iconst 4, 1) := by decide +kernel
theorem dM_findWay_207 : decode bM_findWay 207 = .ok (.invokevirtual 199, 3) := by decide +kernel
theorem dM_findWay_210 : decode bM_findWay 210 = .ok (.return_, 1) := by decide +kernel
theorem dM_filter_0 : decode bM_filter 0 = .ok (.aload_n 0, 1) := by decide +kernel
theorem dM_filter_1 : decode bM_filter 1 = .ok (.getfield 183, 3) := by decide +kernel
theorem dM_filter_4 : decode bM_filter 4 = .ok (.iconst 1, 1) := by decide +kernel
theorem dM_filter_5 : decode bM_filter 5 = .ok (.isub, 1) := by decide +kernel
theorem dM_filter_6 : decode bM_filter 6 = .ok (.istore_n 3, 1) := by decide +kernel
theorem dM_filter_7 : decode bM_filter 7 = .ok (.iload_n 1, 1) := by decide +kernel
theorem dM_filter_8 : decode bM_filter 8 = .ok (.bipush 9, 2) := by decide +kernel
theorem dM_filter_10 : decode bM_filter 10 = .ok (.if_icmp .ne 72, 3) := by decide +kernel
theorem dM_filter_13 : decode bM_filter 13 = .ok (.aload_n 0, 1) := by decide +kernel
theorem dM_filter_14 : decode bM_filter 14 = .ok (.invokevirtual 193, 3) := by decide +kernel
theorem dM_filter_17 : decode bM_filter 17 = .ok (.iconst 0, 1) := by decide +kernel
theorem dM_filter_18 : decode bM_filter 18 = .ok (.istore 4, 2) := by decide +kernel
theorem dM_filter_20 : decode bM_filter 20 = .ok (.iload 4, 2) := by decide +kernel
theorem dM_filter_22 : decode bM_filter 22 = .ok (.aload_n 0, 1) := by decide +kernel
theorem dM_filter_23 : decode bM_filter 23 = .ok (.getfield 52, 3) := by decide +kernel
theorem dM_filter_26 : decode bM_filter 26 = .ok (.iload_n 3, 1) := by decide +kernel
theorem dM_filter_27 : decode bM_filter 27 = .ok (.iaload, 1) := by decide +kernel
theorem dM_filter_28 : decode bM_filter 28 = .ok (.if_icmp .ge 46, 3) := by decide +kernel
theorem dM_filter_31 : decode bM_filter 31 = .ok (.aload_n 0, 1) := by decide +kernel
theorem dM_filter_32 : decode bM_filter 32 = .ok (.getfield 16, 3) := by decide +kernel
theorem dM_filter_35 : decode bM_filter 35 = .ok (.aload_n 0, 1) := by decide +kernel
theorem dM_filter_36 : decode bM_filter 36 = .ok (.getfield 49, 3) := by decide +kernel
theorem dM_filter_39 : decode bM_filter 39 = .ok (.bipush 30, 2) := by decide +kernel
theorem dM_filter_41 : decode bM_filter 41 = .ok (.iload_n 3, 1) := by decide +kernel
theorem dM_filter_42 : decode bM_filter 42 = .ok (.imul, 1) := by decide +kernel
theorem dM_filter_43 : decode bM_filter 43 = .ok (.iload 4, 2) := by decide +kernel
theorem dM_filter_45 : decode bM_filter 45 = .ok (.iadd, 1) := by decide +kernel
theorem dM_filter_46 : decode bM_filter 46 = .ok (.iaload, 1) := by decide +kernel
theorem dM_filter_47 : decode bM_filter 47 = .ok (.iaload, 1) := by decide +kernel
theorem dM_filter_48 : decode bM_filter 48 = .ok (.iload_n 2, 1) := by decide +kernel
theorem dM_filter_49 : decode bM_filter 49 = .ok (.if_icmp .ne 19, 3) := by decide +kernel
theorem dM_filter_52 : decode bM_filter 52 = .ok (.aload_n 0, 1) := by decide +kernel
theorem dM_filter_53 : decode bM_filter 53 = .ok (.aload_n 0, 1) := by decide +kernel
theorem dM_filter_54 : decode bM_filter 54 = .ok (.getfield 49, 3) := by decide +kernel
theorem dM_filter_57 : decode bM_filter 57 = .ok (.bipush 30, 2) := by decide +kernel
theorem dM_filter_59 : decode bM_filter 59 = .ok (.iload_n 3, 1) := by decide +kernel
theorem dM_filter_60 : decode bM_filter 60 = .ok (.imul, 1) := by decide +kernel
theorem dM_filter_61 : decode bM_filter 61 = .ok (.iload 4, 2) := by decide +kernel
theorem dM_filter_63 : decode bM_filter 63 = .ok (.iadd, 1) := by decide +kernel
theorem dM_filter_64 : decode bM_filter 64 = .ok (.iaload, 1) := by decide +kernel
theorem dM_filter_65 : decode bM_filter 65 = .ok (.invokevirtual 196, 3) := by decide +kernel
theorem dM_filter_68 : decode bM_filter 68 = .ok (.iinc 4 1, 3) := by decide +kernel
theorem dM_filter_71 : decode bM_filter 71 = .ok (.goto (-51), 3) := by decide +kernel
theorem dM_filter_74 : decode bM_filter 74 = .ok (.aload_n 0, 1) := by decide +kernel
theorem dM_filter_75 : decode bM_filter 75 = .ok (.iconst 1, 1) := by decide +kernel
theorem dM_filter_76 : decode bM_filter 76 = .ok (.invokevirtual 199, 3) := by decide +kernel
theorem dM_filter_79 : decode bM_filter 79 = .ok (.goto 174, 3) := by decide +kernel
theorem dM_filter_82 : decode bM_filter 82 = .ok (.iload_n 1, 1) := by decide +kernel
theorem dM_filter_83 : decode bM_filter 83 = .ok (.bipush 10, 2) := by decide +kernel
theorem dM_filter_85 : decode bM_filter 85 = .ok (.if_icmp .ne 68, 3) := by decide +kernel
theorem dM_filter_88 : decode bM_filter 88 = .ok (.aload_n 0, 1) := by decide +kernel
theorem dM_filter_89 : decode bM_filter 89 = .ok (.iconst 1, 1) := by decide +kernel
theorem dM_filter_90 : decode bM_filter 90 = .ok (.sipush 1000, 3) := by decide +kernel
theorem dM_filter_93 : decode bM_filter 93 = .ok (.invokevirtual 205, 3) := by decide +kernel
theorem dM_filter_96 : decode bM_filter 96 = .ok (.aload_n 0, 1) := by decide +kernel
theorem dM_filter_97 : decode bM_filter 97 = .ok (.invokevirtual 193, 3) := by decide +kernel
theorem dM_filter_100 : decode bM_filter 100 = .ok (.iconst 0, 1) := by decide +kernel
theorem dM_filter_101 : decode bM_filter 101 = .ok (.istore 4, 2) := by decide +kernel
theorem dM_filter_103 : decode bM_filter 103 = .ok (.iload 4, 2) := by decide +kernel
theorem dM_filter_105 : decode bM_filter 105 = .ok (.aload_n 0, 1) := by decide +kernel
theorem dM_filter_106 : decode bM_filter 106 = .ok (.getfield 86, 3) := by decide +kernel
theorem dM_filter_109 : decode bM_filter 109 = .ok (.if_icmp .ge 36, 3) := by decide +kernel
theorem dM_filter_112 : decode bM_filter 112 = .ok (.aload_n 0, 1) := by decide +kernel
theorem dM_filter_113 : decode bM_filter 113 = .ok (.getfield 16, 3) := by decide +kernel
theorem dM_filter_116 : decode bM_filter 116 = .ok (.iload 4, 2) := by decide +kernel
theorem dM_filter_118 : decode bM_filter 118 = .ok (.iaload, 1) := by decide +kernel
theorem dM_filter_119 : decode bM_filter 119 = .ok (.iconst 3, 1) := by decide +kernel
theorem dM_filter_120 : decode bM_filter 120 = .ok (.if_icmp .ne 19, 3) := by decide +kernel
theorem dM_filter_123 : decode bM_filter 123 = .ok (.aload_n 0, 1) := by decide +kernel
theorem dM_filter_124 : decode bM_filter 124 = .ok (.iconst 1, 1) := by decide +kernel
theorem dM_filter_125 : decode bM_filter 125 = .ok (.iload 4, 2) := by decide +kernel
theorem dM_filter_127 : decode bM_filter 127 = .ok (.invokevirtual 202, 3) := by decide +kernel
theorem dM_filter_130 : decode bM_filter 130 = .ok (.ifCond .eq 9, 3) := by decide +kernel
theorem dM_filter_133 : decode bM_filter 133 = .ok (.aload_n 0, 1) := by decide +kernel
theorem dM_filter_134 : decode bM_filter 134 = .ok (.iload 4, 2) := by decide +kernel
theorem dM_filter_136 : decode bM_filter 136 = .ok (.invokevirtual 196, 3) := by decide +kernel
theorem dM_filter_139 : decode bM_filter 139 = .ok (.iinc 4 1, 3) := by decide +kernel
theorem dM_filter_142 : decode bM_filter 142 = .ok (.goto (-39), 3) := by decide +kernel
theorem dM_filter_145 : decode bM_filter 145 = .ok (.aload_n 0, 1) := by decide +kernel
theorem dM_filter_146 : decode bM_filter 146 = .ok (.iconst 2, 1) := by decide +kernel
theorem dM_filter_147 : decode bM_filter 147 = .ok (.invokevirtual 199, 3) := by decide +kernel
theorem dM_filter_150 : decode bM_filter 150 = .ok (.goto 103, 3) := by decide +kernel
theorem dM_filter_153 : decode bM_filter 153 = .ok (.aload_n 0, 1) := by decide +kernel
theorem dM_filter_154 : decode bM_filter 154 = .ok (.invokevirtual 193, 3) := by decide +kernel
theorem dM_filter_157 : decode bM_filter 157 = .ok (.iconst 0, 1) := by decide +kernel
theorem dM_filter_158 : decode bM_filter 158 = .ok (.istore 4, 2) := by decide +kernel
theorem dM_filter_160 : decode bM_filter 160 = .ok (.iload 4, 2) := by decide +kernel
theorem dM_filter_162 : decode bM_filter 162 = .ok (.aload_n 0, 1) := by decide +kernel
theorem dM_filter_163 : decode bM_filter 163 = .ok (.getfield 86, 3) := by decide +kernel
theorem dM_filter_166 : decode bM_filter 166 = .ok (.if_icmp .ge 82, 3) := by decide +kernel
theorem dM_filter_169 : decode bM_filter 169 = .ok (.iconst 0, 1) := by decide +kernel
theorem dM_filter_170 : decode bM_filter 170 = .ok (.istore 5, 2) := by decide +kernel
theorem dM_filter_172 : decode bM_filter 172 = .ok (.iconst 0, 1) := by decide +kernel
theorem dM_filter_173 : decode bM_filter 173 = .ok (.istore 6, 2) := by decide +kernel
theorem dM_filter_175 : decode bM_filter 175 = .ok (.iload 6, 2) := by decide +kernel
theorem dM_filter_177 : decode bM_filter 177 = .ok (.aload_n 0, 1) := by decide +kernel
theorem dM_filter_178 : decode bM_filter 178 = .ok (.getfield 52, 3) := by decide +kernel
theorem dM_filter_181 : decode bM_filter 181 = .ok (.iload_n 3, 1) := by decide +kernel
theorem dM_filter_182 : decode bM_filter 182 = .ok (.iaload, 1) := by decide +kernel
theorem dM_filter_183 : decode bM_filter 183 = .ok (.if_icmp .ge 48, 3) := by decide +kernel
theorem dM_filter_186 : decode bM_filter 186 = .ok (.iload 5, 2) := by decide +kernel
theorem dM_filter_188 : decode bM_filter 188 = .ok (.ifCond .ne 30, 3) := by decide +kernel
theorem dM_filter_191 : decode bM_filter 191 = .ok (.aload_n 0, 1) := by decide +kernel
theorem dM_filter_192 : decode bM_filter 192 = .ok (.getfield 7, 3) := by decide +kernel
theorem dM_filter_195 : decode bM_filter 195 = .ok (.aload_n 0, 1) := by decide +kernel
theorem dM_filter_196 : decode bM_filter 196 = .ok (.getfield 49, 3) := by decide +kernel
theorem dM_filter_199 : decode bM_filter 199 = .ok (.bipush 30, 2) := by decide +kernel
theorem dM_filter_201 : decode bM_filter 201 = .ok (.iload_n 3, 1) := by decide +kernel
theorem dM_filter_202 : decode bM_filter 202 = .ok (.imul, 1) := by decide +kernel
theorem dM_filter_203 : decode bM_filter 203 = .ok (.iload 6, 2) := by decide +kernel
theorem dM_filter_205 : decode bM_filter 205 = .ok (.iadd, 1) := by decide +kernel
theorem dM_filter_206 : decode bM_filter 206 = .ok (.iaload, 1) := by decide +kernel
theorem dM_filter_207 : decode bM_filter 207 = .ok (.iaload, 1) := by decide +kernel
theorem dM_filter_208 : decode bM_filter 208 = .ok (.aload_n 0, 1) := by decide +kernel
theorem dM_filter_209 : decode bM_filter 209 = .ok (.getfield 7, 3) := by decide +kernel
theorem dM_filter_212 : decode bM_filter 212 = .ok (.iload 4, 2) := by decide +kernel
theorem dM_filter_214 : decode bM_filter 214 = .ok (.iaload, 1) := by decide +kernel
theorem dM_filter_215 : decode bM_filter 215 = .ok (.if_icmp .ne 7, 3) := by decide +kernel
theorem dM_filter_218 : decode bM_filter 218 = .ok (.iconst 1, 1) := by decide +kernel
theorem dM_filter_219 : decode bM_filter 219 = .ok (.goto 4, 3) := by decide +kernel
theorem dM_filter_222 : decode bM_filter 222 = .ok (.iconst 0, 1) := by decide +kernel
theorem dM_filter_223 : decode bM_filter 223 = .ok (.istore 5, 2) := by decide +kernel
theorem dM_filter_225 : decode bM_filter 225 = .ok (.iinc 6 1, 3) := by decide +kernel
theorem dM_filter_228 : decode bM_filter 228 = .ok (.goto (-53), 3) := by decide +kernel
theorem dM_filter_231 : decode bM_filter 231 = .ok (.iload 5, 2) := by decide +kernel
theorem dM_filter_233 : decode bM_filter 233 = .ok (.ifCond .eq 9, 3) := by decide +kernel
theorem dM_filter_236 : decode bM_filter 236 = .ok (.aload_n 0, 1) := by decide +kernel
theorem dM_filter_237 : decode bM_filter 237 = .ok (.iload 4, 2) := by decide +kernel
theorem dM_filter_239 : decode bM_filter 239 = .ok (.invokevirtual 196, 3) := by decide +kernel
theorem dM_filter_242 : decode bM_filter 242 = .ok (.iinc 4 1, 3) := by decide +kernel
theorem dM_filter_245 : decode bM_filter 245 = .ok (.goto (-85), 3) := by decide +kernel
theorem dM_filter_248 : decode bM_filter 248 = .ok (.aload_n 0, 1) := by decide +kernel
theorem dM_filter_249 : decode bM_filter 249 = .ok (.iconst 1, 1) := by decide +kernel
theorem dM_filter_250 : decode bM_filter 250 = .ok (.invokevirtual 199, 3) := by decide +kernel
theorem dM_filter_253 : decode bM_filter 253 = .ok (.return_, 1) := by decide +kernel
theorem dM_bind_0 : decode bM_bind 0 = .ok (.aload_n 0, 1) := by decide +kernel
theorem dM_bind_1 : decode bM_bind 1 = .ok (.dup, 1) := by decide +kernel
theorem dM_bind_2 : decode bM_bind 2 = .ok (.getfield 183, 3) := by decide +kernel
theorem dM_bind_5 : decode bM_bind 5 = .ok (.iconst 1, 1) := by decide +kernel
theorem dM_bind_6 : decode bM_bind 6 = .ok (.isub, 1) := by decide +kernel
theorem dM_bind_7 : decode bM_bind 7 = .ok (.putfield 183, 3) := by decide +kernel
theorem dM_bind_10 : decode bM_bind 10 = .ok (.iconst 0, 1) := by decide +kernel
theorem dM_bind_11 : decode bM_bind 11 = .ok (.istore_n 2, 1) := by decide +kernel
theorem dM_bind_12 : decode bM_bind 12 = .ok (.iload_n 2, 1) := by decide +kernel
theorem dM_bind_13 : decode bM_bind 13 = .ok (.aload_n 0, 1) := by decide +kernel
theorem dM_bind_14 : decode bM_bind 14 = .ok (.getfield 52, 3) := by decide +kernel
theorem dM_bind_17 : decode bM_bind 17 = .ok (.aload_n 0, 1) := by decide +kernel
theorem dM_bind_18 : decode bM_bind 18 = .ok (.getfield 183, 3) := by decide +kernel
theorem dM_bind_21 : decode bM_bind 21 = .ok (.iaload, 1) := by decide +kernel
theorem dM_bind_22 : decode bM_bind 22 = .ok (.if_icmp .ge 37, 3) := by decide +kernel
theorem dM_bind_25 : decode bM_bind 25 = .ok (.aload_n 0, 1) := by decide +kernel
theorem dM_bind_26 : decode bM_bind 26 = .ok (.getfield 55, 3) := by decide +kernel
theorem dM_bind_29 : decode bM_bind 29 = .ok (.bipush 30, 2) := by decide +kernel
theorem dM_bind_31 : decode bM_bind 31 = .ok (.aload_n 0, 1) := by decide +kernel
theorem dM_bind_32 : decode bM_bind 32 = .ok (.getfield 209, 3) := by decide +kernel
theorem dM_bind_35 : decode bM_bind 35 = .ok (.imul, 1) := by decide +kernel
