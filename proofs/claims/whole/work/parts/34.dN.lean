theorem dN_init_0 : decode bN_init 0 = .ok (.aload_n 0, 1) := by decide +kernel
theorem dN_init_1 : decode bN_init 1 = .ok (.invokespecial 3, 3) := by decide +kernel
theorem dN_init_4 : decode bN_init 4 = .ok (.aload_n 0, 1) := by decide +kernel
theorem dN_init_5 : decode bN_init 5 = .ok (.bipush 24, 2) := by decide +kernel
theorem dN_init_7 : decode bN_init 7 = .ok (.anewarray 9, 3) := by decide +kernel
theorem dN_init_10 : decode bN_init 10 = .ok (.putfield 11, 3) := by decide +kernel
theorem dN_init_13 : decode bN_init 13 = .ok (.iconst 0, 1) := by decide +kernel
theorem dN_init_14 : decode bN_init 14 = .ok (.istore_n 1, 1) := by decide +kernel
theorem dN_init_15 : decode bN_init 15 = .ok (.iload_n 1, 1) := by decide +kernel
theorem dN_init_16 : decode bN_init 16 = .ok (.aload_n 0, 1) := by decide +kernel
theorem dN_init_17 : decode bN_init 17 = .ok (.getfield 11, 3) := by decide +kernel
theorem dN_init_20 : decode bN_init 20 = .ok (.arraylength, 1) := by decide +kernel
theorem dN_init_21 : decode bN_init 21 = .ok (.if_icmp .ge 22, 3) := by decide +kernel
theorem dN_init_24 : decode bN_init 24 = .ok (.aload_n 0, 1) := by decide +kernel
theorem dN_init_25 : decode bN_init 25 = .ok (.getfield 11, 3) := by decide +kernel
theorem dN_init_28 : decode bN_init 28 = .ok (.iload_n 1, 1) := by decide +kernel
theorem dN_init_29 : decode bN_init 29 = .ok (.new 9, 3) := by decide +kernel
theorem dN_init_32 : decode bN_init 32 = .ok (.dup, 1) := by decide +kernel
theorem dN_init_33 : decode bN_init 33 = .ok (.invokespecial 17, 3) := by decide +kernel
theorem dN_init_36 : decode bN_init 36 = .ok (.aastore, 1) := by decide +kernel
theorem dN_init_37 : decode bN_init 37 = .ok (.iinc 1 1, 3) := by decide +kernel
theorem dN_init_40 : decode bN_init 40 = .ok (.goto (-25), 3) := by decide +kernel
theorem dN_init_43 : decode bN_init 43 = .ok (.aload_n 0, 1) := by decide +kernel
theorem dN_init_44 : decode bN_init 44 = .ok (.bipush 12, 2) := by decide +kernel
theorem dN_init_46 : decode bN_init 46 = .ok (.anewarray 9, 3) := by decide +kernel
theorem dN_init_49 : decode bN_init 49 = .ok (.putfield 18, 3) := by decide +kernel
theorem dN_init_52 : decode bN_init 52 = .ok (.iconst 0, 1) := by decide +kernel
theorem dN_init_53 : decode bN_init 53 = .ok (.istore_n 1, 1) := by decide +kernel
theorem dN_init_54 : decode bN_init 54 = .ok (.iload_n 1, 1) := by decide +kernel
theorem dN_init_55 : decode bN_init 55 = .ok (.aload_n 0, 1) := by decide +kernel
theorem dN_init_56 : decode bN_init 56 = .ok (.getfield 18, 3) := by decide +kernel
theorem dN_init_59 : decode bN_init 59 = .ok (.arraylength, 1) := by decide +kernel
theorem dN_init_60 : decode bN_init 60 = .ok (.if_icmp .ge 22, 3) := by decide +kernel
theorem dN_init_63 : decode bN_init 63 = .ok (.aload_n 0, 1) := by decide +kernel
theorem dN_init_64 : decode bN_init 64 = .ok (.getfield 18, 3) := by decide +kernel
theorem dN_init_67 : decode bN_init 67 = .ok (.iload_n 1, 1) := by decide +kernel
theorem dN_init_68 : decode bN_init 68 = .ok (.new 9, 3) := by decide +kernel
theorem dN_init_71 : decode bN_init 71 = .ok (.dup, 1) := by decide +kernel
theorem dN_init_72 : decode bN_init 72 = .ok (.invokespecial 17, 3) := by decide +kernel
theorem dN_init_75 : decode bN_init 75 = .ok (.aastore, 1) := by decide +kernel
theorem dN_init_76 : decode bN_init 76 = .ok (.iinc 1 1, 3) := by decide +kernel
theorem dN_init_79 : decode bN_init 79 = .ok (.goto (-25), 3) := by decide +kernel
theorem dN_init_82 : decode bN_init 82 = .ok (.aload_n 0, 1) := by decide +kernel
theorem dN_init_83 : decode bN_init 83 = .ok (.iconst 0, 1) := by decide +kernel
theorem dN_init_84 : decode bN_init 84 = .ok (.putfield 21, 3) := by decide +kernel
theorem dN_init_87 : decode bN_init 87 = .ok (.return_, 1) := by decide +kernel
theorem dN_run_0 : decode bN_run 0 = .ok (.aload_n 0, 1) := by decide +kernel
theorem dN_run_1 : decode bN_run 1 = .ok (.iconst 0, 1) := by decide +kernel
theorem dN_run_2 : decode bN_run 2 = .ok (.putfield 21, 3) := by decide +kernel
theorem dN_run_5 : decode bN_run 5 = .ok (.iconst 0, 1) := by decide +kernel
theorem dN_run_6 : decode bN_run 6 = .ok (.istore_n 3, 1) := by decide +kernel
theorem dN_run_7 : decode bN_run 7 = .ok (.iconst 0, 1) := by decide +kernel
theorem dN_run_8 : decode bN_run 8 = .ok (.istore 4, 2) := by decide +kernel
theorem dN_run_10 : decode bN_run 10 = .ok (.iload 4, 2) := by decide +kernel
theorem dN_run_12 : decode bN_run 12 = .ok (.aload_n 1, 1) := by decide +kernel
theorem dN_run_13 : decode bN_run 13 = .ok (.invokevirtual 25, 3) := by decide +kernel
theorem dN_run_16 : decode bN_run 16 = .ok (.if_icmp .ge 95, 3) := by decide +kernel
theorem dN_run_19 : decode bN_run 19 = .ok (.aload_n 1, 1) := by decide +kernel
theorem dN_run_20 : decode bN_run 20 = .ok (.iload 4, 2) := by decide +kernel
theorem dN_run_22 : decode bN_run 22 = .ok (.invokevirtual 31, 3) := by decide +kernel
theorem dN_run_25 : decode bN_run 25 = .ok (.istore 5, 2) := by decide +kernel
theorem dN_run_27 : decode bN_run 27 = .ok (.aload_n 1, 1) := by decide +kernel
theorem dN_run_28 : decode bN_run 28 = .ok (.iload 4, 2) := by decide +kernel
theorem dN_run_30 : decode bN_run 30 = .ok (.invokevirtual 35, 3) := by decide +kernel
theorem dN_run_33 : decode bN_run 33 = .ok (.istore 6, 2) := by decide +kernel
theorem dN_run_35 : decode bN_run 35 = .ok (.iload 5, 2) := by decide +kernel
theorem dN_run_37 : decode bN_run 37 = .ok (.bipush 12, 2) := by decide +kernel
theorem dN_run_39 : decode bN_run 39 = .ok (.if_icmp .ne 22, 3) := by decide +kernel
theorem dN_run_42 : decode bN_run 42 = .ok (.aload_n 0, 1) := by decide +kernel
theorem dN_run_43 : decode bN_run 43 = .ok (.getfield 18, 3) := by decide +kernel
theorem dN_run_46 : decode bN_run 46 = .ok (.iload 6, 2) := by decide +kernel
theorem dN_run_48 : decode bN_run 48 = .ok (.invokestatic 38, 3) := by decide +kernel
theorem dN_run_51 : decode bN_run 51 = .ok (.aload_n 0, 1) := by decide +kernel
theorem dN_run_52 : decode bN_run 52 = .ok (.invokevirtual 42, 3) := by decide +kernel
theorem dN_run_55 : decode bN_run 55 = .ok (.invokevirtual 46, 3) := by decide +kernel
theorem dN_run_58 : decode bN_run 58 = .ok (.goto 47, 3) := by decide +kernel
theorem dN_run_61 : decode bN_run 61 = .ok (.iload 5, 2) := by decide +kernel
theorem dN_run_63 : decode bN_run 63 = .ok (.invokestatic 50, 3) := by decide +kernel
theorem dN_run_66 : decode bN_run 66 = .ok (.ifCond .ne 10, 3) := by decide +kernel
theorem dN_run_69 : decode bN_run 69 = .ok (.iload 5, 2) := by decide +kernel
theorem dN_run_71 : decode bN_run 71 = .ok (.bipush 8, 2) := by decide +kernel
theorem dN_run_73 : decode bN_run 73 = .ok (.if_icmp .ne 13, 3) := by decide +kernel
theorem dN_run_76 : decode bN_run 76 = .ok (.aload_n 0, 1) := by decide +kernel
theorem dN_run_77 : decode bN_run 77 = .ok (.iload 5, 2) := by decide +kernel
theorem dN_run_79 : decode bN_run 79 = .ok (.aload_n 2, 1) := by decide +kernel
theorem dN_run_80 : decode bN_run 80 = .ok (.invokevirtual 54, 3) := by decide +kernel
theorem dN_run_83 : decode bN_run 83 = .ok (.goto 12, 3) := by decide +kernel
theorem dN_run_86 : decode bN_run 86 = .ok (.aload_n 0, 1) := by decide +kernel
theorem dN_run_87 : decode bN_run 87 = .ok (.iload 5, 2) := by decide +kernel
theorem dN_run_89 : decode bN_run 89 = .ok (.iload 6, 2) := by decide +kernel
theorem dN_run_91 : decode bN_run 91 = .ok (.aload_n 2, 1) := by decide +kernel
theorem dN_run_92 : decode bN_run 92 = .ok (.invokevirtual 58, 3) := by decide +kernel
theorem dN_run_95 : decode bN_run 95 = .ok (.iload_n 3, 1) := by decide +kernel
theorem dN_run_96 : decode bN_run 96 = .ok (.aload_n 0, 1) := by decide +kernel
theorem dN_run_97 : decode bN_run 97 = .ok (.invokevirtual 62, 3) := by decide +kernel
theorem dN_run_100 : decode bN_run 100 = .ok (.invokevirtual 65, 3) := by decide +kernel
theorem dN_run_103 : decode bN_run 103 = .ok (.iadd, 1) := by decide +kernel
theorem dN_run_104 : decode bN_run 104 = .ok (.istore_n 3, 1) := by decide +kernel
theorem dN_run_105 : decode bN_run 105 = .ok (.iinc 4 1, 3) := by decide +kernel
theorem dN_run_108 : decode bN_run 108 = .ok (.goto (-98), 3) := by decide +kernel
theorem dN_run_111 : decode bN_run 111 = .ok (.iload_n 3, 1) := by decide +kernel
theorem dN_run_112 : decode bN_run 112 = .ok (.ireturn, 1) := by decide +kernel
theorem dN_result_0 : decode bN_result 0 = .ok (.aload_n 0, 1) := by decide +kernel
theorem dN_result_1 : decode bN_result 1 = .ok (.getfield 11, 3) := by decide +kernel
theorem dN_result_4 : decode bN_result 4 = .ok (.aload_n 0, 1) := by decide +kernel
theorem dN_result_5 : decode bN_result 5 = .ok (.getfield 21, 3) := by decide +kernel
theorem dN_result_8 : decode bN_result 8 = .ok (.iconst 1, 1) := by decide +kernel
theorem dN_result_9 : decode bN_result 9 = .ok (.isub, 1) := by decide +kernel
theorem dN_result_10 : decode bN_result 10 = .ok (.invokestatic 38, 3) := by decide +kernel
theorem dN_result_13 : decode bN_result 13 = .ok (.areturn, 1) := by decide +kernel
theorem dN_make_0 : decode bN_make 0 = .ok (.iload_n 1, 1) := by decide +kernel
theorem dN_make_1 : decode bN_make 1 = .ok (.tableswitch 157 2 11 #[55, 70, 157, 88, 99, 111, 157, 123, 135, 146], 55) := by decide +kernel
theorem dN_make_56 : decode bN_make 56 = .ok (.aload_n 0, 1) := by decide +kernel
theorem dN_make_57 : decode bN_make 57 = .ok (.invokevirtual 66, 3) := by decide +kernel
theorem dN_make_60 : decode bN_make 60 = .ok (.aload_n 3, 1) := by decide +kernel
theorem dN_make_61 : decode bN_make 61 = .ok (.iload_n 2, 1) := by decide +kernel
theorem dN_make_62 : decode bN_make 62 = .ok (.invokevirtual 69, 3) := by decide +kernel
theorem dN_make_65 : decode bN_make 65 = .ok (.invokevirtual 74, 3) := by decide +kernel
theorem dN_make_68 : decode bN_make 68 = .ok (.goto 90, 3) := by decide +kernel
theorem dN_make_71 : decode bN_make 71 = .ok (.aload_n 0, 1) := by decide +kernel
theorem dN_make_72 : decode bN_make 72 = .ok (.invokevirtual 66, 3) := by decide +kernel
theorem dN_make_75 : decode bN_make 75 = .ok (.aload_n 0, 1) := by decide +kernel
theorem dN_make_76 : decode bN_make 76 = .ok (.getfield 18, 3) := by decide +kernel
theorem dN_make_79 : decode bN_make 79 = .ok (.iload_n 2, 1) := by decide +kernel
theorem dN_make_80 : decode bN_make 80 = .ok (.invokestatic 38, 3) := by decide +kernel
theorem dN_make_83 : decode bN_make 83 = .ok (.invokevirtual 46, 3) := by decide +kernel
theorem dN_make_86 : decode bN_make 86 = .ok (.goto 72, 3) := by decide +kernel
theorem dN_make_89 : decode bN_make 89 = .ok (.aload_n 3, 1) := by decide +kernel
theorem dN_make_90 : decode bN_make 90 = .ok (.aload_n 0, 1) := by decide +kernel
theorem dN_make_91 : decode bN_make 91 = .ok (.invokevirtual 66, 3) := by decide +kernel
theorem dN_make_94 : decode bN_make 94 = .ok (.invokevirtual 78, 3) := by decide +kernel
theorem dN_make_97 : decode bN_make 97 = .ok (.goto 61, 3) := by decide +kernel
theorem dN_make_100 : decode bN_make 100 = .ok (.aload_n 3, 1) := by decide +kernel
theorem dN_make_101 : decode bN_make 101 = .ok (.aload_n 0, 1) := by decide +kernel
theorem dN_make_102 : decode bN_make 102 = .ok (.invokevirtual 62, 3) := by decide +kernel
theorem dN_make_105 : decode bN_make 105 = .ok (.iload_n 2, 1) := by decide +kernel
theorem dN_make_106 : decode bN_make 106 = .ok (.invokevirtual 81, 3) := by decide +kernel
theorem dN_make_109 : decode bN_make 109 = .ok (.goto 49, 3) := by decide +kernel
theorem dN_make_112 : decode bN_make 112 = .ok (.aload_n 3, 1) := by decide +kernel
theorem dN_make_113 : decode bN_make 113 = .ok (.aload_n 0, 1) := by decide +kernel
theorem dN_make_114 : decode bN_make 114 = .ok (.invokevirtual 62, 3) := by decide +kernel
theorem dN_make_117 : decode bN_make 117 = .ok (.iload_n 2, 1) := by decide +kernel
theorem dN_make_118 : decode bN_make 118 = .ok (.invokevirtual 85, 3) := by decide +kernel
theorem dN_make_121 : decode bN_make 121 = .ok (.goto 37, 3) := by decide +kernel
theorem dN_make_124 : decode bN_make 124 = .ok (.aload_n 3, 1) := by decide +kernel
theorem dN_make_125 : decode bN_make 125 = .ok (.aload_n 0, 1) := by decide +kernel
theorem dN_make_126 : decode bN_make 126 = .ok (.invokevirtual 62, 3) := by decide +kernel
theorem dN_make_129 : decode bN_make 129 = .ok (.iload_n 2, 1) := by decide +kernel
theorem dN_make_130 : decode bN_make 130 = .ok (.invokevirtual 88, 3) := by decide +kernel
theorem dN_make_133 : decode bN_make 133 = .ok (.goto 25, 3) := by decide +kernel
theorem dN_make_136 : decode bN_make 136 = .ok (.aload_n 3, 1) := by decide +kernel
theorem dN_make_137 : decode bN_make 137 = .ok (.aload_n 0, 1) := by decide +kernel
theorem dN_make_138 : decode bN_make 138 = .ok (.invokevirtual 62, 3) := by decide +kernel
theorem dN_make_141 : decode bN_make 141 = .ok (.invokevirtual 91, 3) := by decide +kernel
theorem dN_make_144 : decode bN_make 144 = .ok (.goto 14, 3) := by decide +kernel
theorem dN_make_147 : decode bN_make 147 = .ok (.aload_n 3, 1) := by decide +kernel
theorem dN_make_148 : decode bN_make 148 = .ok (.aload_n 0, 1) := by decide +kernel
theorem dN_make_149 : decode bN_make 149 = .ok (.invokevirtual 62, 3) := by decide +kernel
theorem dN_make_152 : decode bN_make 152 = .ok (.invokevirtual 94, 3) := by decide +kernel
theorem dN_make_155 : decode bN_make 155 = .ok (.goto 3, 3) := by decide +kernel
theorem dN_make_158 : decode bN_make 158 = .ok (.return_, 1) := by decide +kernel
theorem dN_makeOfTwo_0 : decode bN_makeOfTwo 0 = .ok (.aload_n 0, 1) := by decide +kernel
theorem dN_makeOfTwo_1 : decode bN_makeOfTwo 1 = .ok (.invokevirtual 42, 3) := by decide +kernel
theorem dN_makeOfTwo_4 : decode bN_makeOfTwo 4 = .ok (.astore_n 3, 1) := by decide +kernel
theorem dN_makeOfTwo_5 : decode bN_makeOfTwo 5 = .ok (.aload_n 0, 1) := by decide +kernel
theorem dN_makeOfTwo_6 : decode bN_makeOfTwo 6 = .ok (.invokevirtual 62, 3) := by decide +kernel
theorem dN_makeOfTwo_9 : decode bN_makeOfTwo 9 = .ok (.astore 4, 2) := by decide +kernel
theorem dN_makeOfTwo_11 : decode bN_makeOfTwo 11 = .ok (.iload_n 1, 1) := by decide +kernel
theorem dN_makeOfTwo_12 : decode bN_makeOfTwo 12 = .ok (.lookupswitch 89 #[(8, 79), (38, 67), (43, 44), (45, 53)], 44) := by decide +kernel
theorem dN_makeOfTwo_56 : decode bN_makeOfTwo 56 = .ok (.aload 4, 2) := by decide +kernel
theorem dN_makeOfTwo_58 : decode bN_makeOfTwo 58 = .ok (.aload_n 3, 1) := by decide +kernel
theorem dN_makeOfTwo_59 : decode bN_makeOfTwo 59 = .ok (.invokevirtual 97, 3) := by decide +kernel
theorem dN_makeOfTwo_62 : decode bN_makeOfTwo 62 = .ok (.goto 39, 3) := by decide +kernel
theorem dN_makeOfTwo_65 : decode bN_makeOfTwo 65 = .ok (.aload 4, 2) := by decide +kernel
theorem dN_makeOfTwo_67 : decode bN_makeOfTwo 67 = .ok (.aload_n 3, 1) := by decide +kernel
theorem dN_makeOfTwo_68 : decode bN_makeOfTwo 68 = .ok (.invokevirtual 100, 3) := by decide +kernel
theorem dN_makeOfTwo_71 : decode bN_makeOfTwo 71 = .ok (.iconst (-1), 1) := by decide +kernel
theorem dN_makeOfTwo_72 : decode bN_makeOfTwo 72 = .ok (.ixor, 1) := by decide +kernel
theorem dN_makeOfTwo_73 : decode bN_makeOfTwo 73 = .ok (.invokevirtual 103, 3) := by decide +kernel
theorem dN_makeOfTwo_76 : decode bN_makeOfTwo 76 = .ok (.goto 25, 3) := by decide +kernel
theorem dN_makeOfTwo_79 : decode bN_makeOfTwo 79 = .ok (.aload 4, 2) := by decide +kernel
theorem dN_makeOfTwo_81 : decode bN_makeOfTwo 81 = .ok (.aload_n 3, 1) := by decide +kernel
theorem dN_makeOfTwo_82 : decode bN_makeOfTwo 82 = .ok (.invokevirtual 100, 3) := by decide +kernel
theorem dN_makeOfTwo_85 : decode bN_makeOfTwo 85 = .ok (.invokevirtual 103, 3) := by decide +kernel
theorem dN_makeOfTwo_88 : decode bN_makeOfTwo 88 = .ok (.goto 13, 3) := by decide +kernel
theorem dN_makeOfTwo_91 : decode bN_makeOfTwo 91 = .ok (.aload_n 2, 1) := by decide +kernel
theorem dN_makeOfTwo_92 : decode bN_makeOfTwo 92 = .ok (.aload 4, 2) := by decide +kernel
theorem dN_makeOfTwo_94 : decode bN_makeOfTwo 94 = .ok (.aload_n 3, 1) := by decide +kernel
theorem dN_makeOfTwo_95 : decode bN_makeOfTwo 95 = .ok (.invokevirtual 106, 3) := by decide +kernel
theorem dN_makeOfTwo_98 : decode bN_makeOfTwo 98 = .ok (.goto 3, 3) := by decide +kernel
theorem dN_makeOfTwo_101 : decode bN_makeOfTwo 101 = .ok (.return_, 1) := by decide +kernel
theorem dN_push_0 : decode bN_push 0 = .ok (.aload_n 0, 1) := by decide +kernel
theorem dN_push_1 : decode bN_push 1 = .ok (.getfield 11, 3) := by decide +kernel
theorem dN_push_4 : decode bN_push 4 = .ok (.aload_n 0, 1) := by decide +kernel
theorem dN_push_5 : decode bN_push 5 = .ok (.getfield 21, 3) := by decide +kernel
theorem dN_push_8 : decode bN_push 8 = .ok (.invokestatic 38, 3) := by decide +kernel
theorem dN_push_11 : decode bN_push 11 = .ok (.astore_n 1, 1) := by decide +kernel
theorem dN_push_12 : decode bN_push 12 = .ok (.aload_n 0, 1) := by decide +kernel
theorem dN_push_13 : decode bN_push 13 = .ok (.dup, 1) := by decide +kernel
theorem dN_push_14 : decode bN_push 14 = .ok (.getfield 21, 3) := by decide +kernel
theorem dN_push_17 : decode bN_push 17 = .ok (.iconst 1, 1) := by decide +kernel
theorem dN_push_18 : decode bN_push 18 = .ok (.iadd, 1) := by decide +kernel
theorem dN_push_19 : decode bN_push 19 = .ok (.putfield 21, 3) := by decide +kernel
theorem dN_push_22 : decode bN_push 22 = .ok (.aload_n 1, 1) := by decide +kernel
theorem dN_push_23 : decode bN_push 23 = .ok (.invokevirtual 110, 3) := by decide +kernel
theorem dN_push_26 : decode bN_push 26 = .ok (.aload_n 1, 1) := by decide +kernel
theorem dN_push_27 : decode bN_push 27 = .ok (.areturn, 1) := by decide +kernel
theorem dN_pop_0 : decode bN_pop 0 = .ok (.aload_n 0, 1) := by decide +kernel
theorem dN_pop_1 : decode bN_pop 1 = .ok (.dup, 1) := by decide +kernel
theorem dN_pop_2 : decode bN_pop 2 = .ok (.getfield 21, 3) := by decide +kernel
theorem dN_pop_5 : decode bN_pop 5 = .ok (.iconst 1, 1) := by decide +kernel
theorem dN_pop_6 : decode bN_pop 6 = .ok (.isub, 1) := by decide +kernel
theorem dN_pop_7 : decode bN_pop 7 = .ok (.putfield 21, 3) := by decide +kernel
theorem dN_pop_10 : decode bN_pop 10 = .ok (.aload_n 0, 1) := by decide +kernel
theorem dN_pop_11 : decode bN_pop 11 = .ok (.getfield 11, 3) := by decide +kernel
theorem dN_pop_14 : decode bN_pop 14 = .ok (.aload_n 0, 1) := by decide +kernel
theorem dN_pop_15 : decode bN_pop 15 = .ok (.getfield 21, 3) := by decide +kernel
theorem dN_pop_18 : decode bN_pop 18 = .ok (.invokestatic 38, 3) := by decide +kernel
theorem dN_pop_21 : decode bN_pop 21 = .ok (.areturn, 1) := by decide +kernel
theorem dN_rowAt_0 : decode bN_rowAt 0 = .ok (.aload_n 0, 1) := by decide +kernel
theorem dN_rowAt_1 : decode bN_rowAt 1 = .ok (.iconst 0, 1) := by decide +kernel
theorem dN_rowAt_2 : decode bN_rowAt 2 = .ok (.iload_n 1, 1) := by decide +kernel
theorem dN_rowAt_3 : decode bN_rowAt 3 = .ok (.aload_n 0, 1) := by decide +kernel
theorem dN_rowAt_4 : decode bN_rowAt 4 = .ok (.arraylength, 1) := by decide +kernel
theorem dN_rowAt_5 : decode bN_rowAt 5 = .ok (.iconst 1, 1) := by decide +kernel
theorem dN_rowAt_6 : decode bN_rowAt 6 = .ok (.isub, 1) := by decide +kernel
theorem dN_rowAt_7 : decode bN_rowAt 7 = .ok (.invokestatic 113, 3) := by decide +kernel
theorem dN_rowAt_10 : decode bN_rowAt 10 = .ok (.invokestatic 119, 3) := by decide +kernel
theorem dN_rowAt_13 : decode bN_rowAt 13 = .ok (.aaload, 1) := by decide +kernel
theorem dN_rowAt_14 : decode bN_rowAt 14 = .ok (.areturn, 1) := by decide +kernel
