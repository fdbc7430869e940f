theorem dG_init_0 : decode bG_init 0 = .ok (.aload_n 0, 1) := by decide +kernel
theorem dG_init_1 : decode bG_init 1 = .ok (.invokespecial 3, 3) := by decide +kernel
theorem dG_init_4 : decode bG_init 4 = .ok (.aload_n 0, 1) := by decide +kernel
theorem dG_init_5 : decode bG_init 5 = .ok (.bipush 30, 2) := by decide +kernel
theorem dG_init_7 : decode bG_init 7 = .ok (.newarray .int, 2) := by decide +kernel
theorem dG_init_9 : decode bG_init 9 = .ok (.putfield 9, 3) := by decide +kernel
theorem dG_init_12 : decode bG_init 12 = .ok (.aload_n 0, 1) := by decide +kernel
theorem dG_init_13 : decode bG_init 13 = .ok (.bipush 30, 2) := by decide +kernel
theorem dG_init_15 : decode bG_init 15 = .ok (.newarray .int, 2) := by decide +kernel
theorem dG_init_17 : decode bG_init 17 = .ok (.putfield 15, 3) := by decide +kernel
theorem dG_init_20 : decode bG_init 20 = .ok (.aload_n 0, 1) := by decide +kernel
theorem dG_init_21 : decode bG_init 21 = .ok (.bipush 60, 2) := by decide +kernel
theorem dG_init_23 : decode bG_init 23 = .ok (.newarray .int, 2) := by decide +kernel
theorem dG_init_25 : decode bG_init 25 = .ok (.putfield 18, 3) := by decide +kernel
theorem dG_init_28 : decode bG_init 28 = .ok (.aload_n 0, 1) := by decide +kernel
theorem dG_init_29 : decode bG_init 29 = .ok (.sipush 240, 3) := by decide +kernel
theorem dG_init_32 : decode bG_init 32 = .ok (.newarray .int, 2) := by decide +kernel
theorem dG_init_34 : decode bG_init 34 = .ok (.putfield 21, 3) := by decide +kernel
theorem dG_init_37 : decode bG_init 37 = .ok (.aload_n 0, 1) := by decide +kernel
theorem dG_init_38 : decode bG_init 38 = .ok (.bipush 30, 2) := by decide +kernel
theorem dG_init_40 : decode bG_init 40 = .ok (.newarray .int, 2) := by decide +kernel
theorem dG_init_42 : decode bG_init 42 = .ok (.putfield 24, 3) := by decide +kernel
theorem dG_init_45 : decode bG_init 45 = .ok (.aload_n 0, 1) := by decide +kernel
theorem dG_init_46 : decode bG_init 46 = .ok (.bipush 30, 2) := by decide +kernel
theorem dG_init_48 : decode bG_init 48 = .ok (.newarray .int, 2) := by decide +kernel
theorem dG_init_50 : decode bG_init 50 = .ok (.putfield 27, 3) := by decide +kernel
theorem dG_init_53 : decode bG_init 53 = .ok (.aload_n 0, 1) := by decide +kernel
theorem dG_init_54 : decode bG_init 54 = .ok (.bipush 30, 2) := by decide +kernel
theorem dG_init_56 : decode bG_init 56 = .ok (.newarray .int, 2) := by decide +kernel
theorem dG_init_58 : decode bG_init 58 = .ok (.putfield 30, 3) := by decide +kernel
theorem dG_init_61 : decode bG_init 61 = .ok (.aload_n 0, 1) := by decide +kernel
theorem dG_init_62 : decode bG_init 62 = .ok (.bipush 30, 2) := by decide +kernel
theorem dG_init_64 : decode bG_init 64 = .ok (.newarray .int, 2) := by decide +kernel
theorem dG_init_66 : decode bG_init 66 = .ok (.putfield 33, 3) := by decide +kernel
theorem dG_init_69 : decode bG_init 69 = .ok (.aload_n 0, 1) := by decide +kernel
theorem dG_init_70 : decode bG_init 70 = .ok (.iconst 0, 1) := by decide +kernel
theorem dG_init_71 : decode bG_init 71 = .ok (.putfield 36, 3) := by decide +kernel
theorem dG_init_74 : decode bG_init 74 = .ok (.iconst 0, 1) := by decide +kernel
theorem dG_init_75 : decode bG_init 75 = .ok (.istore_n 1, 1) := by decide +kernel
theorem dG_init_76 : decode bG_init 76 = .ok (.iload_n 1, 1) := by decide +kernel
theorem dG_init_77 : decode bG_init 77 = .ok (.aload_n 0, 1) := by decide +kernel
theorem dG_init_78 : decode bG_init 78 = .ok (.getfield 18, 3) := by decide +kernel
theorem dG_init_81 : decode bG_init 81 = .ok (.arraylength, 1) := by decide +kernel
theorem dG_init_82 : decode bG_init 82 = .ok (.if_icmp .ge 16, 3) := by decide +kernel
theorem dG_init_85 : decode bG_init 85 = .ok (.aload_n 0, 1) := by decide +kernel
theorem dG_init_86 : decode bG_init 86 = .ok (.getfield 18, 3) := by decide +kernel
theorem dG_init_89 : decode bG_init 89 = .ok (.iload_n 1, 1) := by decide +kernel
theorem dG_init_90 : decode bG_init 90 = .ok (.iconst (-1), 1) := by decide +kernel
theorem dG_init_91 : decode bG_init 91 = .ok (.iastore, 1) := by decide +kernel
theorem dG_init_92 : decode bG_init 92 = .ok (.iinc 1 1, 3) := by decide +kernel
theorem dG_init_95 : decode bG_init 95 = .ok (.goto (-19), 3) := by decide +kernel
theorem dG_init_98 : decode bG_init 98 = .ok (.return_, 1) := by decide +kernel
theorem dG_addTarget_0 : decode bG_addTarget 0 = .ok (.aload_n 0, 1) := by decide +kernel
theorem dG_addTarget_1 : decode bG_addTarget 1 = .ok (.getfield 36, 3) := by decide +kernel
theorem dG_addTarget_4 : decode bG_addTarget 4 = .ok (.bipush 30, 2) := by decide +kernel
theorem dG_addTarget_6 : decode bG_addTarget 6 = .ok (.if_icmp .ge 29, 3) := by decide +kernel
theorem dG_addTarget_9 : decode bG_addTarget 9 = .ok (.iload_n 1, 1) := by decide +kernel
theorem dG_addTarget_10 : decode bG_addTarget 10 = .ok (.bipush 6, 2) := by decide +kernel
theorem dG_addTarget_12 : decode bG_addTarget 12 = .ok (.invokestatic 40, 3) := by decide +kernel
theorem dG_addTarget_15 : decode bG_addTarget 15 = .ok (.ifCond .eq 20, 3) := by decide +kernel
theorem dG_addTarget_18 : decode bG_addTarget 18 = .ok (.iload_n 2, 1) := by decide +kernel
theorem dG_addTarget_19 : decode bG_addTarget 19 = .ok (.bipush 10, 2) := by decide +kernel
theorem dG_addTarget_21 : decode bG_addTarget 21 = .ok (.invokestatic 40, 3) := by decide +kernel
theorem dG_addTarget_24 : decode bG_addTarget 24 = .ok (.ifCond .eq 11, 3) := by decide +kernel
theorem dG_addTarget_27 : decode bG_addTarget 27 = .ok (.iload_n 3, 1) := by decide +kernel
theorem dG_addTarget_28 : decode bG_addTarget 28 = .ok (.iconst 4, 1) := by decide +kernel
theorem dG_addTarget_29 : decode bG_addTarget 29 = .ok (.invokestatic 40, 3) := by decide +kernel
theorem dG_addTarget_32 : decode bG_addTarget 32 = .ok (.ifCond .ne 5, 3) := by decide +kernel
theorem dG_addTarget_35 : decode bG_addTarget 35 = .ok (.iconst (-1), 1) := by decide +kernel
theorem dG_addTarget_36 : decode bG_addTarget 36 = .ok (.ireturn, 1) := by decide +kernel
theorem dG_addTarget_37 : decode bG_addTarget 37 = .ok (.iload_n 1, 1) := by decide +kernel
theorem dG_addTarget_38 : decode bG_addTarget 38 = .ok (.bipush 10, 2) := by decide +kernel
theorem dG_addTarget_40 : decode bG_addTarget 40 = .ok (.imul, 1) := by decide +kernel
theorem dG_addTarget_41 : decode bG_addTarget 41 = .ok (.iload_n 2, 1) := by decide +kernel
theorem dG_addTarget_42 : decode bG_addTarget 42 = .ok (.iadd, 1) := by decide +kernel
theorem dG_addTarget_43 : decode bG_addTarget 43 = .ok (.istore 4, 2) := by decide +kernel
theorem dG_addTarget_45 : decode bG_addTarget 45 = .ok (.aload_n 0, 1) := by decide +kernel
theorem dG_addTarget_46 : decode bG_addTarget 46 = .ok (.getfield 18, 3) := by decide +kernel
theorem dG_addTarget_49 : decode bG_addTarget 49 = .ok (.iload 4, 2) := by decide +kernel
theorem dG_addTarget_51 : decode bG_addTarget 51 = .ok (.iaload, 1) := by decide +kernel
theorem dG_addTarget_52 : decode bG_addTarget 52 = .ok (.iconst (-1), 1) := by decide +kernel
theorem dG_addTarget_53 : decode bG_addTarget 53 = .ok (.if_icmp .eq 5, 3) := by decide +kernel
theorem dG_addTarget_56 : decode bG_addTarget 56 = .ok (.iconst (-1), 1) := by decide +kernel
theorem dG_addTarget_57 : decode bG_addTarget 57 = .ok (.ireturn, 1) := by decide +kernel
theorem dG_addTarget_58 : decode bG_addTarget 58 = .ok (.aload_n 0, 1) := by decide +kernel
theorem dG_addTarget_59 : decode bG_addTarget 59 = .ok (.getfield 36, 3) := by decide +kernel
theorem dG_addTarget_62 : decode bG_addTarget 62 = .ok (.istore 5, 2) := by decide +kernel
theorem dG_addTarget_64 : decode bG_addTarget 64 = .ok (.aload_n 0, 1) := by decide +kernel
theorem dG_addTarget_65 : decode bG_addTarget 65 = .ok (.getfield 18, 3) := by decide +kernel
theorem dG_addTarget_68 : decode bG_addTarget 68 = .ok (.iload 4, 2) := by decide +kernel
theorem dG_addTarget_70 : decode bG_addTarget 70 = .ok (.iload 5, 2) := by decide +kernel
theorem dG_addTarget_72 : decode bG_addTarget 72 = .ok (.iastore, 1) := by decide +kernel
theorem dG_addTarget_73 : decode bG_addTarget 73 = .ok (.aload_n 0, 1) := by decide +kernel
theorem dG_addTarget_74 : decode bG_addTarget 74 = .ok (.getfield 9, 3) := by decide +kernel
theorem dG_addTarget_77 : decode bG_addTarget 77 = .ok (.iload 5, 2) := by decide +kernel
theorem dG_addTarget_79 : decode bG_addTarget 79 = .ok (.iload 4, 2) := by decide +kernel
theorem dG_addTarget_81 : decode bG_addTarget 81 = .ok (.iastore, 1) := by decide +kernel
theorem dG_addTarget_82 : decode bG_addTarget 82 = .ok (.aload_n 0, 1) := by decide +kernel
theorem dG_addTarget_83 : decode bG_addTarget 83 = .ok (.getfield 15, 3) := by decide +kernel
theorem dG_addTarget_86 : decode bG_addTarget 86 = .ok (.iload 5, 2) := by decide +kernel
theorem dG_addTarget_88 : decode bG_addTarget 88 = .ok (.iload_n 3, 1) := by decide +kernel
theorem dG_addTarget_89 : decode bG_addTarget 89 = .ok (.iastore, 1) := by decide +kernel
theorem dG_addTarget_90 : decode bG_addTarget 90 = .ok (.aload_n 0, 1) := by decide +kernel
theorem dG_addTarget_91 : decode bG_addTarget 91 = .ok (.dup, 1) := by decide +kernel
theorem dG_addTarget_92 : decode bG_addTarget 92 = .ok (.getfield 36, 3) := by decide +kernel
theorem dG_addTarget_95 : decode bG_addTarget 95 = .ok (.iconst 1, 1) := by decide +kernel
theorem dG_addTarget_96 : decode bG_addTarget 96 = .ok (.iadd, 1) := by decide +kernel
theorem dG_addTarget_97 : decode bG_addTarget 97 = .ok (.putfield 36, 3) := by decide +kernel
theorem dG_addTarget_100 : decode bG_addTarget 100 = .ok (.iload 5, 2) := by decide +kernel
theorem dG_addTarget_102 : decode bG_addTarget 102 = .ok (.ireturn, 1) := by decide +kernel
theorem dG_addNeed_0 : decode bG_addNeed 0 = .ok (.iload_n 1, 1) := by decide +kernel
theorem dG_addNeed_1 : decode bG_addNeed 1 = .ok (.aload_n 0, 1) := by decide +kernel
theorem dG_addNeed_2 : decode bG_addNeed 2 = .ok (.getfield 36, 3) := by decide +kernel
theorem dG_addNeed_5 : decode bG_addNeed 5 = .ok (.invokestatic 40, 3) := by decide +kernel
theorem dG_addNeed_8 : decode bG_addNeed 8 = .ok (.ifCond .eq 41, 3) := by decide +kernel
theorem dG_addNeed_11 : decode bG_addNeed 11 = .ok (.iload_n 2, 1) := by decide +kernel
theorem dG_addNeed_12 : decode bG_addNeed 12 = .ok (.aload_n 0, 1) := by decide +kernel
theorem dG_addNeed_13 : decode bG_addNeed 13 = .ok (.getfield 36, 3) := by decide +kernel
theorem dG_addNeed_16 : decode bG_addNeed 16 = .ok (.invokestatic 40, 3) := by decide +kernel
theorem dG_addNeed_19 : decode bG_addNeed 19 = .ok (.ifCond .eq 30, 3) := by decide +kernel
theorem dG_addNeed_22 : decode bG_addNeed 22 = .ok (.aload_n 0, 1) := by decide +kernel
theorem dG_addNeed_23 : decode bG_addNeed 23 = .ok (.getfield 27, 3) := by decide +kernel
theorem dG_addNeed_26 : decode bG_addNeed 26 = .ok (.iload_n 1, 1) := by decide +kernel
theorem dG_addNeed_27 : decode bG_addNeed 27 = .ok (.iaload, 1) := by decide +kernel
theorem dG_addNeed_28 : decode bG_addNeed 28 = .ok (.iload_n 2, 1) := by decide +kernel
theorem dG_addNeed_29 : decode bG_addNeed 29 = .ok (.invokestatic 44, 3) := by decide +kernel
theorem dG_addNeed_32 : decode bG_addNeed 32 = .ok (.ifCond .ne 17, 3) := by decide +kernel
theorem dG_addNeed_35 : decode bG_addNeed 35 = .ok (.aload_n 0, 1) := by decide +kernel
theorem dG_addNeed_36 : decode bG_addNeed 36 = .ok (.getfield 24, 3) := by decide +kernel
theorem dG_addNeed_39 : decode bG_addNeed 39 = .ok (.iload_n 1, 1) := by decide +kernel
theorem dG_addNeed_40 : decode bG_addNeed 40 = .ok (.iaload, 1) := by decide +kernel
theorem dG_addNeed_41 : decode bG_addNeed 41 = .ok (.bipush 8, 2) := by decide +kernel
theorem dG_addNeed_43 : decode bG_addNeed 43 = .ok (.invokestatic 40, 3) := by decide +kernel
theorem dG_addNeed_46 : decode bG_addNeed 46 = .ok (.ifCond .ne 5, 3) := by decide +kernel
theorem dG_addNeed_49 : decode bG_addNeed 49 = .ok (.iconst 0, 1) := by decide +kernel
theorem dG_addNeed_50 : decode bG_addNeed 50 = .ok (.ireturn, 1) := by decide +kernel
theorem dG_addNeed_51 : decode bG_addNeed 51 = .ok (.aload_n 0, 1) := by decide +kernel
theorem dG_addNeed_52 : decode bG_addNeed 52 = .ok (.getfield 21, 3) := by decide +kernel
theorem dG_addNeed_55 : decode bG_addNeed 55 = .ok (.iload_n 1, 1) := by decide +kernel
theorem dG_addNeed_56 : decode bG_addNeed 56 = .ok (.bipush 8, 2) := by decide +kernel
theorem dG_addNeed_58 : decode bG_addNeed 58 = .ok (.imul, 1) := by decide +kernel
theorem dG_addNeed_59 : decode bG_addNeed 59 = .ok (.aload_n 0, 1) := by decide +kernel
theorem dG_addNeed_60 : decode bG_addNeed 60 = .ok (.getfield 24, 3) := by decide +kernel
theorem dG_addNeed_63 : decode bG_addNeed 63 = .ok (.iload_n 1, 1) := by decide +kernel
theorem dG_addNeed_64 : decode bG_addNeed 64 = .ok (.iaload, 1) := by decide +kernel
theorem dG_addNeed_65 : decode bG_addNeed 65 = .ok (.iadd, 1) := by decide +kernel
theorem dG_addNeed_66 : decode bG_addNeed 66 = .ok (.iload_n 2, 1) := by decide +kernel
theorem dG_addNeed_67 : decode bG_addNeed 67 = .ok (.iastore, 1) := by decide +kernel
theorem dG_addNeed_68 : decode bG_addNeed 68 = .ok (.aload_n 0, 1) := by decide +kernel
theorem dG_addNeed_69 : decode bG_addNeed 69 = .ok (.getfield 24, 3) := by decide +kernel
theorem dG_addNeed_72 : decode bG_addNeed 72 = .ok (.iload_n 1, 1) := by decide +kernel
theorem dG_addNeed_73 : decode bG_addNeed 73 = .ok (.dup2, 1) := by decide +kernel
theorem dG_addNeed_74 : decode bG_addNeed 74 = .ok (.iaload, 1) := by decide +kernel
theorem dG_addNeed_75 : decode bG_addNeed 75 = .ok (.iconst 1, 1) := by decide +kernel
theorem dG_addNeed_76 : decode bG_addNeed 76 = .ok (.iadd, 1) := by decide +kernel
theorem dG_addNeed_77 : decode bG_addNeed 77 = .ok (.iastore, 1) := by decide +kernel
theorem dG_addNeed_78 : decode bG_addNeed 78 = .ok (.aload_n 0, 1) := by decide +kernel
theorem dG_addNeed_79 : decode bG_addNeed 79 = .ok (.getfield 27, 3) := by decide +kernel
theorem dG_addNeed_82 : decode bG_addNeed 82 = .ok (.iload_n 1, 1) := by decide +kernel
theorem dG_addNeed_83 : decode bG_addNeed 83 = .ok (.dup2, 1) := by decide +kernel
theorem dG_addNeed_84 : decode bG_addNeed 84 = .ok (.iaload, 1) := by decide +kernel
theorem dG_addNeed_85 : decode bG_addNeed 85 = .ok (.iconst 1, 1) := by decide +kernel
theorem dG_addNeed_86 : decode bG_addNeed 86 = .ok (.iload_n 2, 1) := by decide +kernel
theorem dG_addNeed_87 : decode bG_addNeed 87 = .ok (.ishl, 1) := by decide +kernel
theorem dG_addNeed_88 : decode bG_addNeed 88 = .ok (.ior, 1) := by decide +kernel
theorem dG_addNeed_89 : decode bG_addNeed 89 = .ok (.iastore, 1) := by decide +kernel
theorem dG_addNeed_90 : decode bG_addNeed 90 = .ok (.aload_n 0, 1) := by decide +kernel
theorem dG_addNeed_91 : decode bG_addNeed 91 = .ok (.getfield 30, 3) := by decide +kernel
theorem dG_addNeed_94 : decode bG_addNeed 94 = .ok (.iload_n 2, 1) := by decide +kernel
theorem dG_addNeed_95 : decode bG_addNeed 95 = .ok (.dup2, 1) := by decide +kernel
theorem dG_addNeed_96 : decode bG_addNeed 96 = .ok (.iaload, 1) := by decide +kernel
theorem dG_addNeed_97 : decode bG_addNeed 97 = .ok (.iconst 1, 1) := by decide +kernel
theorem dG_addNeed_98 : decode bG_addNeed 98 = .ok (.iload_n 1, 1) := by decide +kernel
theorem dG_addNeed_99 : decode bG_addNeed 99 = .ok (.ishl, 1) := by decide +kernel
theorem dG_addNeed_100 : decode bG_addNeed 100 = .ok (.ior, 1) := by decide +kernel
theorem dG_addNeed_101 : decode bG_addNeed 101 = .ok (.iastore, 1) := by decide +kernel
theorem dG_addNeed_102 : decode bG_addNeed 102 = .ok (.iconst 1, 1) := by decide +kernel
theorem dG_addNeed_103 : decode bG_addNeed 103 = .ok (.ireturn, 1) := by decide +kernel
theorem dG_needAt_0 : decode bG_needAt 0 = .ok (.iload_n 1, 1) := by decide +kernel
theorem dG_needAt_1 : decode bG_needAt 1 = .ok (.aload_n 0, 1) := by decide +kernel
theorem dG_needAt_2 : decode bG_needAt 2 = .ok (.getfield 36, 3) := by decide +kernel
theorem dG_needAt_5 : decode bG_needAt 5 = .ok (.invokestatic 40, 3) := by decide +kernel
theorem dG_needAt_8 : decode bG_needAt 8 = .ok (.ifCond .eq 22, 3) := by decide +kernel
theorem dG_needAt_11 : decode bG_needAt 11 = .ok (.iload_n 2, 1) := by decide +kernel
theorem dG_needAt_12 : decode bG_needAt 12 = .ok (.bipush 8, 2) := by decide +kernel
theorem dG_needAt_14 : decode bG_needAt 14 = .ok (.invokestatic 40, 3) := by decide +kernel
theorem dG_needAt_17 : decode bG_needAt 17 = .ok (.ifCond .eq 13, 3) := by decide +kernel
theorem dG_needAt_20 : decode bG_needAt 20 = .ok (.iload_n 2, 1) := by decide +kernel
theorem dG_needAt_21 : decode bG_needAt 21 = .ok (.aload_n 0, 1) := by decide +kernel
theorem dG_needAt_22 : decode bG_needAt 22 = .ok (.getfield 24, 3) := by decide +kernel
theorem dG_needAt_25 : decode bG_needAt 25 = .ok (.iload_n 1, 1) := by decide +kernel
theorem dG_needAt_26 : decode bG_needAt 26 = .ok (.iaload, 1) := by decide +kernel
theorem dG_needAt_27 : decode bG_needAt 27 = .ok (.if_icmp .lt 5, 3) := by decide +kernel
theorem dG_needAt_30 : decode bG_needAt 30 = .ok (.iconst (-1), 1) := by decide +kernel
theorem dG_needAt_31 : decode bG_needAt 31 = .ok (.ireturn, 1) := by decide +kernel
theorem dG_needAt_32 : decode bG_needAt 32 = .ok (.aload_n 0, 1) := by decide +kernel
theorem dG_needAt_33 : decode bG_needAt 33 = .ok (.getfield 21, 3) := by decide +kernel
theorem dG_needAt_36 : decode bG_needAt 36 = .ok (.iload_n 1, 1) := by decide +kernel
theorem dG_needAt_37 : decode bG_needAt 37 = .ok (.bipush 8, 2) := by decide +kernel
theorem dG_needAt_39 : decode bG_needAt 39 = .ok (.imul, 1) := by decide +kernel
theorem dG_needAt_40 : decode bG_needAt 40 = .ok (.iload_n 2, 1) := by decide +kernel
theorem dG_needAt_41 : decode bG_needAt 41 = .ok (.iadd, 1) := by decide +kernel
theorem dG_needAt_42 : decode bG_needAt 42 = .ok (.iaload, 1) := by decide +kernel
theorem dG_needAt_43 : decode bG_needAt 43 = .ok (.ireturn, 1) := by decide +kernel
theorem dG_numberOf_0 : decode bG_numberOf 0 = .ok (.iload_n 1, 1) := by decide +kernel
theorem dG_numberOf_1 : decode bG_numberOf 1 = .ok (.aload_n 0, 1) := by decide +kernel
theorem dG_numberOf_2 : decode bG_numberOf 2 = .ok (.getfield 18, 3) := by decide +kernel
theorem dG_numberOf_5 : decode bG_numberOf 5 = .ok (.arraylength, 1) := by decide +kernel
theorem dG_numberOf_6 : decode bG_numberOf 6 = .ok (.invokestatic 40, 3) := by decide +kernel
theorem dG_numberOf_9 : decode bG_numberOf 9 = .ok (.ifCond .eq 12, 3) := by decide +kernel
theorem dG_numberOf_12 : decode bG_numberOf 12 = .ok (.aload_n 0, 1) := by decide +kernel
theorem dG_numberOf_13 : decode bG_numberOf 13 = .ok (.getfield 18, 3) := by decide +kernel
theorem dG_numberOf_16 : decode bG_numberOf 16 = .ok (.iload_n 1, 1) := by decide +kernel
theorem dG_numberOf_17 : decode bG_numberOf 17 = .ok (.iaload, 1) := by decide +kernel
theorem dG_numberOf_18 : decode bG_numberOf 18 = .ok (.goto 4, 3) := by decide +kernel
theorem dG_numberOf_21 : decode bG_numberOf 21 = .ok (.iconst (-1), 1) := by decide +kernel
theorem dG_numberOf_22 : decode bG_numberOf 22 = .ok (.ireturn, 1) := by decide +kernel
theorem dG_nearestTo_0 : decode bG_nearestTo 0 = .ok (.iload_n 1, 1) := by decide +kernel
theorem dG_nearestTo_1 : decode bG_nearestTo 1 = .ok (.aload_n 0, 1) := by decide +kernel
theorem dG_nearestTo_2 : decode bG_nearestTo 2 = .ok (.getfield 18, 3) := by decide +kernel
theorem dG_nearestTo_5 : decode bG_nearestTo 5 = .ok (.arraylength, 1) := by decide +kernel
theorem dG_nearestTo_6 : decode bG_nearestTo 6 = .ok (.invokestatic 40, 3) := by decide +kernel
theorem dG_nearestTo_9 : decode bG_nearestTo 9 = .ok (.ifCond .ne 5, 3) := by decide +kernel
theorem dG_nearestTo_12 : decode bG_nearestTo 12 = .ok (.iconst (-1), 1) := by decide +kernel
theorem dG_nearestTo_13 : decode bG_nearestTo 13 = .ok (.ireturn, 1) := by decide +kernel
theorem dG_nearestTo_14 : decode bG_nearestTo 14 = .ok (.iload_n 1, 1) := by decide +kernel
theorem dG_nearestTo_15 : decode bG_nearestTo 15 = .ok (.bipush 10, 2) := by decide +kernel
theorem dG_nearestTo_17 : decode bG_nearestTo 17 = .ok (.idiv, 1) := by decide +kernel
theorem dG_nearestTo_18 : decode bG_nearestTo 18 = .ok (.istore_n 2, 1) := by decide +kernel
theorem dG_nearestTo_19 : decode bG_nearestTo 19 = .ok (.iload_n 1, 1) := by decide +kernel
theorem dG_nearestTo_20 : decode bG_nearestTo 20 = .ok (.bipush 10, 2) := by decide +kernel
theorem dG_nearestTo_22 : decode bG_nearestTo 22 = .ok (.irem, 1) := by decide +kernel
theorem dG_nearestTo_23 : decode bG_nearestTo 23 = .ok (.istore_n 3, 1) := by decide +kernel
theorem dG_nearestTo_24 : decode bG_nearestTo 24 = .ok (.aload_n 0, 1) := by decide +kernel
theorem dG_nearestTo_25 : decode bG_nearestTo 25 = .ok (.iload_n 2, 1) := by decide +kernel
theorem dG_nearestTo_26 : decode bG_nearestTo 26 = .ok (.bipush 10, 2) := by decide +kernel
theorem dG_nearestTo_28 : decode bG_nearestTo 28 = .ok (.imul, 1) := by decide +kernel
theorem dG_nearestTo_29 : decode bG_nearestTo 29 = .ok (.iconst 1, 1) := by decide +kernel
theorem dG_nearestTo_30 : decode bG_nearestTo 30 = .ok (.bipush 10, 2) := by decide +kernel
theorem dG_nearestTo_32 : decode bG_nearestTo 32 = .ok (.iload_n 3, 1) := by decide +kernel
theorem dG_nearestTo_33 : decode bG_nearestTo 33 = .ok (.invokevirtual 47, 3) := by decide +kernel
theorem dG_nearestTo_36 : decode bG_nearestTo 36 = .ok (.istore 4, 2) := by decide +kernel
theorem dG_nearestTo_38 : decode bG_nearestTo 38 = .ok (.iload 4, 2) := by decide +kernel
theorem dG_nearestTo_40 : decode bG_nearestTo 40 = .ok (.iconst (-1), 1) := by decide +kernel
theorem dG_nearestTo_41 : decode bG_nearestTo 41 = .ok (.if_icmp .eq 8, 3) := by decide +kernel
theorem dG_nearestTo_44 : decode bG_nearestTo 44 = .ok (.iload 4, 2) := by decide +kernel
theorem dG_nearestTo_46 : decode bG_nearestTo 46 = .ok (.goto 13, 3) := by decide +kernel
theorem dG_nearestTo_49 : decode bG_nearestTo 49 = .ok (.aload_n 0, 1) := by decide +kernel
theorem dG_nearestTo_50 : decode bG_nearestTo 50 = .ok (.iload_n 3, 1) := by decide +kernel
theorem dG_nearestTo_51 : decode bG_nearestTo 51 = .ok (.bipush 10, 2) := by decide +kernel
theorem dG_nearestTo_53 : decode bG_nearestTo 53 = .ok (.bipush 6, 2) := by decide +kernel
theorem dG_nearestTo_55 : decode bG_nearestTo 55 = .ok (.iload_n 2, 1) := by decide +kernel
theorem dG_nearestTo_56 : decode bG_nearestTo 56 = .ok (.invokevirtual 47, 3) := by decide +kernel
theorem dG_nearestTo_59 : decode bG_nearestTo 59 = .ok (.ireturn, 1) := by decide +kernel
theorem dG_closest_0 : decode bG_closest 0 = .ok (.iconst (-1), 1) := by decide +kernel
theorem dG_closest_1 : decode bG_closest 1 = .ok (.istore 5, 2) := by decide +kernel
theorem dG_closest_3 : decode bG_closest 3 = .ok (.iload_n 3, 1) := by decide +kernel
theorem dG_closest_4 : decode bG_closest 4 = .ok (.istore 6, 2) := by decide +kernel
theorem dG_closest_6 : decode bG_closest 6 = .ok (.iconst 0, 1) := by decide +kernel
theorem dG_closest_7 : decode bG_closest 7 = .ok (.istore 7, 2) := by decide +kernel
theorem dG_closest_9 : decode bG_closest 9 = .ok (.iload 7, 2) := by decide +kernel
theorem dG_closest_11 : decode bG_closest 11 = .ok (.iload_n 3, 1) := by decide +kernel
theorem dG_closest_12 : decode bG_closest 12 = .ok (.if_icmp .ge 54, 3) := by decide +kernel
theorem dG_closest_15 : decode bG_closest 15 = .ok (.aload_n 0, 1) := by decide +kernel
theorem dG_closest_16 : decode bG_closest 16 = .ok (.iload_n 1, 1) := by decide +kernel
theorem dG_closest_17 : decode bG_closest 17 = .ok (.iload 7, 2) := by decide +kernel
theorem dG_closest_19 : decode bG_closest 19 = .ok (.iload_n 2, 1) := by decide +kernel
theorem dG_closest_20 : decode bG_closest 20 = .ok (.imul, 1) := by decide +kernel
theorem dG_closest_21 : decode bG_closest 21 = .ok (.iadd, 1) := by decide +kernel
theorem dG_closest_22 : decode bG_closest 22 = .ok (.invokevirtual 51, 3) := by decide +kernel
theorem dG_closest_25 : decode bG_closest 25 = .ok (.istore 8, 2) := by decide +kernel
theorem dG_closest_27 : decode bG_closest 27 = .ok (.iload 8, 2) := by decide +kernel
theorem dG_closest_29 : decode bG_closest 29 = .ok (.iconst (-1), 1) := by decide +kernel
theorem dG_closest_30 : decode bG_closest 30 = .ok (.if_icmp .eq 30, 3) := by decide +kernel
theorem dG_closest_33 : decode bG_closest 33 = .ok (.iload 7, 2) := by decide +kernel
theorem dG_closest_35 : decode bG_closest 35 = .ok (.iload 4, 2) := by decide +kernel
theorem dG_closest_37 : decode bG_closest 37 = .ok (.isub, 1) := by decide +kernel
theorem dG_closest_38 : decode bG_closest 38 = .ok (.invokestatic 55, 3) := by decide +kernel
theorem dG_closest_41 : decode bG_closest 41 = .ok (.iload 6, 2) := by decide +kernel
theorem dG_closest_43 : decode bG_closest 43 = .ok (.if_icmp .ge 17, 3) := by decide +kernel
theorem dG_closest_46 : decode bG_closest 46 = .ok (.iload 8, 2) := by decide +kernel
theorem dG_closest_48 : decode bG_closest 48 = .ok (.istore 5, 2) := by decide +kernel
theorem dG_closest_50 : decode bG_closest 50 = .ok (.iload 7, 2) := by decide +kernel
theorem dG_closest_52 : decode bG_closest 52 = .ok (.iload 4, 2) := by decide +kernel
theorem dG_closest_54 : decode bG_closest 54 = .ok (.isub, 1) := by decide +kernel
theorem dG_closest_55 : decode bG_closest 55 = .ok (.invokestatic 55, 3) := by decide +kernel
theorem dG_closest_58 : decode bG_closest 58 = .ok (.istore 6, 2) := by decide +kernel
theorem dG_closest_60 : decode bG_closest 60 = .ok (.iinc 7 1, 3) := by decide +kernel
theorem dG_closest_63 : decode bG_closest 63 = .ok (.goto (-54), 3) := by decide +kernel
theorem dG_closest_66 : decode bG_closest 66 = .ok (.iload 5, 2) := by decide +kernel
theorem dG_closest_68 : decode bG_closest 68 = .ok (.ireturn, 1) := by decide +kernel
theorem dG_stepsBetween_0 : decode bG_stepsBetween 0 = .ok (.iload_n 1, 1) := by decide +kernel
theorem dG_stepsBetween_1 : decode bG_stepsBetween 1 = .ok (.aload_n 0, 1) := by decide +kernel
theorem dG_stepsBetween_2 : decode bG_stepsBetween 2 = .ok (.getfield 36, 3) := by decide +kernel
theorem dG_stepsBetween_5 : decode bG_stepsBetween 5 = .ok (.invokestatic 40, 3) := by decide +kernel
theorem dG_stepsBetween_8 : decode bG_stepsBetween 8 = .ok (.ifCond .eq 14, 3) := by decide +kernel
theorem dG_stepsBetween_11 : decode bG_stepsBetween 11 = .ok (.iload_n 2, 1) := by decide +kernel
theorem dG_stepsBetween_12 : decode bG_stepsBetween 12 = .ok (.aload_n 0, 1) := by decide +kernel
theorem dG_stepsBetween_13 : decode bG_stepsBetween 13 = .ok (.getfield 36, 3) := by decide +kernel
theorem dG_stepsBetween_16 : decode bG_stepsBetween 16 = .ok (.invokestatic 40, 3) := by decide +kernel
theorem dG_stepsBetween_19 : decode bG_stepsBetween 19 = .ok (.ifCond .ne 5, 3) := by decide +kernel
theorem dG_stepsBetween_22 : decode bG_stepsBetween 22 = .ok (.iconst (-1), 1) := by decide +kernel
theorem dG_stepsBetween_23 : decode bG_stepsBetween 23 = .ok (.ireturn, 1) := by decide +kernel
theorem dG_stepsBetween_24 : decode bG_stepsBetween 24 = .ok (.iconst 1, 1) := by decide +kernel
theorem dG_stepsBetween_25 : decode bG_stepsBetween 25 = .ok (.iload_n 1, 1) := by decide +kernel
theorem dG_stepsBetween_26 : decode bG_stepsBetween 26 = .ok (.ishl, 1) := by decide +kernel
theorem dG_stepsBetween_27 : decode bG_stepsBetween 27 = .ok (.istore_n 3, 1) := by decide +kernel
theorem dG_stepsBetween_28 : decode bG_stepsBetween 28 = .ok (.iconst 0, 1) := by decide +kernel
theorem dG_stepsBetween_29 : decode bG_stepsBetween 29 = .ok (.istore 4, 2) := by decide +kernel
theorem dG_stepsBetween_31 : decode bG_stepsBetween 31 = .ok (.iload 4, 2) := by decide +kernel
theorem dG_stepsBetween_33 : decode bG_stepsBetween 33 = .ok (.bipush 30, 2) := by decide +kernel
theorem dG_stepsBetween_35 : decode bG_stepsBetween 35 = .ok (.if_icmp .ge 32, 3) := by decide +kernel
theorem dG_stepsBetween_38 : decode bG_stepsBetween 38 = .ok (.iload_n 3, 1) := by decide +kernel
theorem dG_stepsBetween_39 : decode bG_stepsBetween 39 = .ok (.iload_n 2, 1) := by decide +kernel
theorem dG_stepsBetween_40 : decode bG_stepsBetween 40 = .ok (.invokestatic 44, 3) := by decide +kernel
theorem dG_stepsBetween_43 : decode bG_stepsBetween 43 = .ok (.ifCond .eq 6, 3) := by decide +kernel
theorem dG_stepsBetween_46 : decode bG_stepsBetween 46 = .ok (.iload 4, 2) := by decide +kernel
theorem dG_stepsBetween_48 : decode bG_stepsBetween 48 = .ok (.ireturn, 1) := by decide +kernel
theorem dG_stepsBetween_49 : decode bG_stepsBetween 49 = .ok (.iload_n 3, 1) := by decide +kernel
theorem dG_stepsBetween_50 : decode bG_stepsBetween 50 = .ok (.aload_n 0, 1) := by decide +kernel
theorem dG_stepsBetween_51 : decode bG_stepsBetween 51 = .ok (.aload_n 0, 1) := by decide +kernel
theorem dG_stepsBetween_52 : decode bG_stepsBetween 52 = .ok (.getfield 27, 3) := by decide +kernel
theorem dG_stepsBetween_55 : decode bG_stepsBetween 55 = .ok (.iload_n 3, 1) := by decide +kernel
theorem dG_stepsBetween_56 : decode bG_stepsBetween 56 = .ok (.invokevirtual 60, 3) := by decide +kernel
theorem dG_stepsBetween_59 : decode bG_stepsBetween 59 = .ok (.ior, 1) := by decide +kernel
theorem dG_stepsBetween_60 : decode bG_stepsBetween 60 = .ok (.istore_n 3, 1) := by decide +kernel
theorem dG_stepsBetween_61 : decode bG_stepsBetween 61 = .ok (.iinc 4 1, 3) := by decide +kernel
theorem dG_stepsBetween_64 : decode bG_stepsBetween 64 = .ok (.goto (-33), 3) := by decide +kernel
theorem dG_stepsBetween_67 : decode bG_stepsBetween 67 = .ok (.iconst (-1), 1) := by decide +kernel
theorem dG_stepsBetween_68 : decode bG_stepsBetween 68 = .ok (.ireturn, 1) := by decide +kernel
theorem dG_joined_0 : decode bG_joined 0 = .ok (.iconst 0, 1) := by decide +kernel
theorem dG_joined_1 : decode bG_joined 1 = .ok (.istore_n 3, 1) := by decide +kernel
theorem dG_joined_2 : decode bG_joined 2 = .ok (.iconst 0, 1) := by decide +kernel
theorem dG_joined_3 : decode bG_joined 3 = .ok (.istore 4, 2) := by decide +kernel
theorem dG_joined_5 : decode bG_joined 5 = .ok (.iload 4, 2) := by decide +kernel
theorem dG_joined_7 : decode bG_joined 7 = .ok (.aload_n 0, 1) := by decide +kernel
theorem dG_joined_8 : decode bG_joined 8 = .ok (.getfield 36, 3) := by decide +kernel
theorem dG_joined_11 : decode bG_joined 11 = .ok (.if_icmp .ge 32, 3) := by decide +kernel
theorem dG_joined_14 : decode bG_joined 14 = .ok (.iload 4, 2) := by decide +kernel
theorem dG_joined_16 : decode bG_joined 16 = .ok (.aload_n 1, 1) := by decide +kernel
theorem dG_joined_17 : decode bG_joined 17 = .ok (.arraylength, 1) := by decide +kernel
theorem dG_joined_18 : decode bG_joined 18 = .ok (.if_icmp .ge 25, 3) := by decide +kernel
theorem dG_joined_21 : decode bG_joined 21 = .ok (.iload_n 2, 1) := by decide +kernel
theorem dG_joined_22 : decode bG_joined 22 = .ok (.iload 4, 2) := by decide +kernel
theorem dG_joined_24 : decode bG_joined 24 = .ok (.invokestatic 44, 3) := by decide +kernel
theorem dG_joined_27 : decode bG_joined 27 = .ok (.ifCond .eq 10, 3) := by decide +kernel
theorem dG_joined_30 : decode bG_joined 30 = .ok (.iload_n 3, 1) := by decide +kernel
theorem dG_joined_31 : decode bG_joined 31 = .ok (.aload_n 1, 1) := by decide +kernel
theorem dG_joined_32 : decode bG_joined 32 = .ok (.iload 4, 2) := by decide +kernel
theorem dG_joined_34 : decode bG_joined 34 = .ok (.iaload, 1) := by decide +kernel
theorem dG_joined_35 : decode bG_joined 35 = .ok (.ior, 1) := by decide +kernel
theorem dG_joined_36 : decode bG_joined 36 = .ok (.istore_n 3, 1) := by decide +kernel
theorem dG_joined_37 : decode bG_joined 37 = .ok (.iinc 4 1, 3) := by decide +kernel
theorem dG_joined_40 : decode bG_joined 40 = .ok (.goto (-35), 3) := by decide +kernel
theorem dG_joined_43 : decode bG_joined 43 = .ok (.iload_n 3, 1) := by decide +kernel
theorem dG_joined_44 : decode bG_joined 44 = .ok (.ireturn, 1) := by decide +kernel
theorem dG_waysBetween_0 : decode bG_waysBetween 0 = .ok (.iload_n 1, 1) := by decide +kernel
theorem dG_waysBetween_1 : decode bG_waysBetween 1 = .ok (.aload_n 0, 1) := by decide +kernel
theorem dG_waysBetween_2 : decode bG_waysBetween 2 = .ok (.getfield 36, 3) := by decide +kernel
theorem dG_waysBetween_5 : decode bG_waysBetween 5 = .ok (.invokestatic 40, 3) := by decide +kernel
theorem dG_waysBetween_8 : decode bG_waysBetween 8 = .ok (.ifCond .eq 24, 3) := by decide +kernel
theorem dG_waysBetween_11 : decode bG_waysBetween 11 = .ok (.iload_n 2, 1) := by decide +kernel
theorem dG_waysBetween_12 : decode bG_waysBetween 12 = .ok (.aload_n 0, 1) := by decide +kernel
theorem dG_waysBetween_13 : decode bG_waysBetween 13 = .ok (.getfield 36, 3) := by decide +kernel
theorem dG_waysBetween_16 : decode bG_waysBetween 16 = .ok (.invokestatic 40, 3) := by decide +kernel
theorem dG_waysBetween_19 : decode bG_waysBetween 19 = .ok (.ifCond .eq 13, 3) := by decide +kernel
theorem dG_waysBetween_22 : decode bG_waysBetween 22 = .ok (.iload_n 3, 1) := by decide +kernel
theorem dG_waysBetween_23 : decode bG_waysBetween 23 = .ok (.ifCond .lt 9, 3) := by decide +kernel
theorem dG_waysBetween_26 : decode bG_waysBetween 26 = .ok (.iload_n 3, 1) := by decide +kernel
theorem dG_waysBetween_27 : decode bG_waysBetween 27 = .ok (.bipush 6, 2) := by decide +kernel
theorem dG_waysBetween_29 : decode bG_waysBetween 29 = .ok (.if_icmp .le 5, 3) := by decide +kernel
theorem dG_waysBetween_32 : decode bG_waysBetween 32 = .ok (.iconst (-1), 1) := by decide +kernel
theorem dG_waysBetween_33 : decode bG_waysBetween 33 = .ok (.ireturn, 1) := by decide +kernel
theorem dG_waysBetween_34 : decode bG_waysBetween 34 = .ok (.iload_n 1, 1) := by decide +kernel
theorem dG_waysBetween_35 : decode bG_waysBetween 35 = .ok (.iload_n 2, 1) := by decide +kernel
theorem dG_waysBetween_36 : decode bG_waysBetween 36 = .ok (.if_icmp .ne 7, 3) := by decide +kernel
theorem dG_waysBetween_39 : decode bG_waysBetween 39 = .ok (.iconst 1, 1) := by decide +kernel
theorem dG_waysBetween_40 : decode bG_waysBetween 40 = .ok (.goto 17, 3) := by decide +kernel
theorem dG_waysBetween_43 : decode bG_waysBetween 43 = .ok (.aload_n 0, 1) := by decide +kernel
theorem dG_waysBetween_44 : decode bG_waysBetween 44 = .ok (.iload_n 1, 1) := by decide +kernel
theorem dG_waysBetween_45 : decode bG_waysBetween 45 = .ok (.iload_n 2, 1) := by decide +kernel
theorem dG_waysBetween_46 : decode bG_waysBetween 46 = .ok (.iload_n 3, 1) := by decide +kernel
theorem dG_waysBetween_47 : decode bG_waysBetween 47 = .ok (.iconst 1, 1) := by decide +kernel
theorem dG_waysBetween_48 : decode bG_waysBetween 48 = .ok (.iload_n 1, 1) := by decide +kernel
theorem dG_waysBetween_49 : decode bG_waysBetween 49 = .ok (.ishl, 1) := by decide +kernel
theorem dG_waysBetween_50 : decode bG_waysBetween 50 = .ok (.iconst 1, 1) := by decide +kernel
theorem dG_waysBetween_51 : decode bG_waysBetween 51 = .ok (.iload_n 2, 1) := by decide +kernel
theorem dG_waysBetween_52 : decode bG_waysBetween 52 = .ok (.ishl, 1) := by decide +kernel
theorem dG_waysBetween_53 : decode bG_waysBetween 53 = .ok (.ior, 1) := by decide +kernel
theorem dG_waysBetween_54 : decode bG_waysBetween 54 = .ok (.invokevirtual 64, 3) := by decide +kernel
theorem dG_waysBetween_57 : decode bG_waysBetween 57 = .ok (.ireturn, 1) := by decide +kernel
theorem dG_waysOn_0 : decode bG_waysOn 0 = .ok (.iload_n 3, 1) := by decide +kernel
theorem dG_waysOn_1 : decode bG_waysOn 1 = .ok (.ifCond .le 25, 3) := by decide +kernel
theorem dG_waysOn_4 : decode bG_waysOn 4 = .ok (.iload_n 1, 1) := by decide +kernel
theorem dG_waysOn_5 : decode bG_waysOn 5 = .ok (.aload_n 0, 1) := by decide +kernel
theorem dG_waysOn_6 : decode bG_waysOn 6 = .ok (.getfield 36, 3) := by decide +kernel
theorem dG_waysOn_9 : decode bG_waysOn 9 = .ok (.invokestatic 40, 3) := by decide +kernel
theorem dG_waysOn_12 : decode bG_waysOn 12 = .ok (.ifCond .eq 14, 3) := by decide +kernel
theorem dG_waysOn_15 : decode bG_waysOn 15 = .ok (.iload_n 2, 1) := by decide +kernel
theorem dG_waysOn_16 : decode bG_waysOn 16 = .ok (.aload_n 0, 1) := by decide +kernel
theorem dG_waysOn_17 : decode bG_waysOn 17 = .ok (.getfield 36, 3) := by decide +kernel
theorem dG_waysOn_20 : decode bG_waysOn 20 = .ok (.invokestatic 40, 3) := by decide +kernel
theorem dG_waysOn_23 : decode bG_waysOn 23 = .ok (.ifCond .ne 5, 3) := by decide +kernel
theorem dG_waysOn_26 : decode bG_waysOn 26 = .ok (.iconst 0, 1) := by decide +kernel
theorem dG_waysOn_27 : decode bG_waysOn 27 = .ok (.ireturn, 1) := by decide +kernel
theorem dG_waysOn_28 : decode bG_waysOn 28 = .ok (.aload_n 0, 1) := by decide +kernel
theorem dG_waysOn_29 : decode bG_waysOn 29 = .ok (.getfield 27, 3) := by decide +kernel
theorem dG_waysOn_32 : decode bG_waysOn 32 = .ok (.iload_n 1, 1) := by decide +kernel
theorem dG_waysOn_33 : decode bG_waysOn 33 = .ok (.iaload, 1) := by decide +kernel
theorem dG_waysOn_34 : decode bG_waysOn 34 = .ok (.iload_n 2, 1) := by decide +kernel
theorem dG_waysOn_35 : decode bG_waysOn 35 = .ok (.invokestatic 44, 3) := by decide +kernel
theorem dG_waysOn_38 : decode bG_waysOn 38 = .ok (.ifCond .eq 7, 3) := by decide +kernel
theorem dG_waysOn_41 : decode bG_waysOn 41 = .ok (.iconst 1, 1) := by decide +kernel
theorem dG_waysOn_42 : decode bG_waysOn 42 = .ok (.goto 4, 3) := by decide +kernel
theorem dG_waysOn_45 : decode bG_waysOn 45 = .ok (.iconst 0, 1) := by decide +kernel
theorem dG_waysOn_46 : decode bG_waysOn 46 = .ok (.istore 5, 2) := by decide +kernel
theorem dG_waysOn_48 : decode bG_waysOn 48 = .ok (.iload_n 3, 1) := by decide +kernel
theorem dG_waysOn_49 : decode bG_waysOn 49 = .ok (.iconst 1, 1) := by decide +kernel
theorem dG_waysOn_50 : decode bG_waysOn 50 = .ok (.if_icmp .ne 6, 3) := by decide +kernel
theorem dG_waysOn_53 : decode bG_waysOn 53 = .ok (.iload 5, 2) := by decide +kernel
theorem dG_waysOn_55 : decode bG_waysOn 55 = .ok (.ireturn, 1) := by decide +kernel
theorem dG_waysOn_56 : decode bG_waysOn 56 = .ok (.iload_n 3, 1) := by decide +kernel
theorem dG_waysOn_57 : decode bG_waysOn 57 = .ok (.iconst 2, 1) := by decide +kernel
theorem dG_waysOn_58 : decode bG_waysOn 58 = .ok (.if_icmp .ne 28, 3) := by decide +kernel
theorem dG_waysOn_61 : decode bG_waysOn 61 = .ok (.iload 5, 2) := by decide +kernel
theorem dG_waysOn_63 : decode bG_waysOn 63 = .ok (.aload_n 0, 1) := by decide +kernel
theorem dG_waysOn_64 : decode bG_waysOn 64 = .ok (.getfield 27, 3) := by decide +kernel
theorem dG_waysOn_67 : decode bG_waysOn 67 = .ok (.iload_n 1, 1) := by decide +kernel
theorem dG_waysOn_68 : decode bG_waysOn 68 = .ok (.iaload, 1) := by decide +kernel
theorem dG_waysOn_69 : decode bG_waysOn 69 = .ok (.iload 4, 2) := by decide +kernel
theorem dG_waysOn_71 : decode bG_waysOn 71 = .ok (.iconst (-1), 1) := by decide +kernel
theorem dG_waysOn_72 : decode bG_waysOn 72 = .ok (.ixor, 1) := by decide +kernel
theorem dG_waysOn_73 : decode bG_waysOn 73 = .ok (.iand, 1) := by decide +kernel
theorem dG_waysOn_74 : decode bG_waysOn 74 = .ok (.aload_n 0, 1) := by decide +kernel
theorem dG_waysOn_75 : decode bG_waysOn 75 = .ok (.getfield 30, 3) := by decide +kernel
theorem dG_waysOn_78 : decode bG_waysOn 78 = .ok (.iload_n 2, 1) := by decide +kernel
theorem dG_waysOn_79 : decode bG_waysOn 79 = .ok (.iaload, 1) := by decide +kernel
theorem dG_waysOn_80 : decode bG_waysOn 80 = .ok (.iand, 1) := by decide +kernel
theorem dG_waysOn_81 : decode bG_waysOn 81 = .ok (.invokestatic 67, 3) := by decide +kernel
theorem dG_waysOn_84 : decode bG_waysOn 84 = .ok (.iadd, 1) := by decide +kernel
theorem dG_waysOn_85 : decode bG_waysOn 85 = .ok (.ireturn, 1) := by decide +kernel
theorem dG_waysOn_86 : decode bG_waysOn 86 = .ok (.iconst 0, 1) := by decide +kernel
theorem dG_waysOn_87 : decode bG_waysOn 87 = .ok (.istore 6, 2) := by decide +kernel
theorem dG_waysOn_89 : decode bG_waysOn 89 = .ok (.iload 6, 2) := by decide +kernel
theorem dG_waysOn_91 : decode bG_waysOn 91 = .ok (.aload_n 0, 1) := by decide +kernel
theorem dG_waysOn_92 : decode bG_waysOn 92 = .ok (.getfield 24, 3) := by decide +kernel
theorem dG_waysOn_95 : decode bG_waysOn 95 = .ok (.iload_n 1, 1) := by decide +kernel
theorem dG_waysOn_96 : decode bG_waysOn 96 = .ok (.iaload, 1) := by decide +kernel
theorem dG_waysOn_97 : decode bG_waysOn 97 = .ok (.if_icmp .ge 57, 3) := by decide +kernel
theorem dG_waysOn_100 : decode bG_waysOn 100 = .ok (.iload 6, 2) := by decide +kernel
theorem dG_waysOn_102 : decode bG_waysOn 102 = .ok (.bipush 8, 2) := by decide +kernel
theorem dG_waysOn_104 : decode bG_waysOn 104 = .ok (.if_icmp .ge 50, 3) := by decide +kernel
theorem dG_waysOn_107 : decode bG_waysOn 107 = .ok (.aload_n 0, 1) := by decide +kernel
theorem dG_waysOn_108 : decode bG_waysOn 108 = .ok (.iload_n 1, 1) := by decide +kernel
theorem dG_waysOn_109 : decode bG_waysOn 109 = .ok (.iload 6, 2) := by decide +kernel
theorem dG_waysOn_111 : decode bG_waysOn 111 = .ok (.invokevirtual 72, 3) := by decide +kernel
theorem dG_waysOn_114 : decode bG_waysOn 114 = .ok (.istore 7, 2) := by decide +kernel
theorem dG_waysOn_116 : decode bG_waysOn 116 = .ok (.iload 4, 2) := by decide +kernel
theorem dG_waysOn_118 : decode bG_waysOn 118 = .ok (.iload 7, 2) := by decide +kernel
theorem dG_waysOn_120 : decode bG_waysOn 120 = .ok (.invokestatic 44, 3) := by decide +kernel
theorem dG_waysOn_123 : decode bG_waysOn 123 = .ok (.ifCond .ne 25, 3) := by decide +kernel
theorem dG_waysOn_126 : decode bG_waysOn 126 = .ok (.iload 5, 2) := by decide +kernel
theorem dG_waysOn_128 : decode bG_waysOn 128 = .ok (.aload_n 0, 1) := by decide +kernel
theorem dG_waysOn_129 : decode bG_waysOn 129 = .ok (.iload 7, 2) := by decide +kernel
theorem dG_waysOn_131 : decode bG_waysOn 131 = .ok (.iload_n 2, 1) := by decide +kernel
theorem dG_waysOn_132 : decode bG_waysOn 132 = .ok (.iload_n 3, 1) := by decide +kernel
theorem dG_waysOn_133 : decode bG_waysOn 133 = .ok (.iconst 1, 1) := by decide +kernel
theorem dG_waysOn_134 : decode bG_waysOn 134 = .ok (.isub, 1) := by decide +kernel
theorem dG_waysOn_135 : decode bG_waysOn 135 = .ok (.iload 4, 2) := by decide +kernel
theorem dG_waysOn_137 : decode bG_waysOn 137 = .ok (.iconst 1, 1) := by decide +kernel
theorem dG_waysOn_138 : decode bG_waysOn 138 = .ok (.iload 7, 2) := by decide +kernel
theorem dG_waysOn_140 : decode bG_waysOn 140 = .ok (.ishl, 1) := by decide +kernel
theorem dG_waysOn_141 : decode bG_waysOn 141 = .ok (.ior, 1) := by decide +kernel
theorem dG_waysOn_142 : decode bG_waysOn 142 = .ok (.invokevirtual 64, 3) := by decide +kernel
theorem dG_waysOn_145 : decode bG_waysOn 145 = .ok (.iadd, 1) := by decide +kernel
theorem dG_waysOn_146 : decode bG_waysOn 146 = .ok (.istore 5, 2) := by decide +kernel
theorem dG_waysOn_148 : decode bG_waysOn 148 = .ok (.iinc 6 1, 3) := by decide +kernel
theorem dG_waysOn_151 : decode bG_waysOn 151 = .ok (.goto (-62), 3) := by decide +kernel
theorem dG_waysOn_154 : decode bG_waysOn 154 = .ok (.iload 5, 2) := by decide +kernel
theorem dG_waysOn_156 : decode bG_waysOn 156 = .ok (.ireturn, 1) := by decide +kernel
theorem dG_listAll_0 : decode bG_listAll 0 = .ok (.iconst 0, 1) := by decide +kernel
theorem dG_listAll_1 : decode bG_listAll 1 = .ok (.istore_n 2, 1) := by decide +kernel
theorem dG_listAll_2 : decode bG_listAll 2 = .ok (.iload_n 2, 1) := by decide +kernel
theorem dG_listAll_3 : decode bG_listAll 3 = .ok (.aload_n 0, 1) := by decide +kernel
theorem dG_listAll_4 : decode bG_listAll 4 = .ok (.getfield 36, 3) := by decide +kernel
theorem dG_listAll_7 : decode bG_listAll 7 = .ok (.if_icmp .ge 14, 3) := by decide +kernel
theorem dG_listAll_10 : decode bG_listAll 10 = .ok (.aload_n 1, 1) := by decide +kernel
theorem dG_listAll_11 : decode bG_listAll 11 = .ok (.iload_n 2, 1) := by decide +kernel
theorem dG_listAll_12 : decode bG_listAll 12 = .ok (.invokevirtual 76, 3) := by decide +kernel
theorem dG_listAll_15 : decode bG_listAll 15 = .ok (.iinc 2 1, 3) := by decide +kernel
theorem dG_listAll_18 : decode bG_listAll 18 = .ok (.goto (-16), 3) := by decide +kernel
theorem dG_listAll_21 : decode bG_listAll 21 = .ok (.return_, 1) := by decide +kernel
theorem dG_growByNeeds_0 : decode bG_growByNeeds 0 = .ok (.iconst 0, 1) := by decide +kernel
theorem dG_growByNeeds_1 : decode bG_growByNeeds 1 = .ok (.istore_n 3, 1) := by decide +kernel
theorem dG_growByNeeds_2 : decode bG_growByNeeds 2 = .ok (.iconst 0, 1) := by decide +kernel
theorem dG_growByNeeds_3 : decode bG_growByNeeds 3 = .ok (.istore 4, 2) := by decide +kernel
theorem dG_growByNeeds_5 : decode bG_growByNeeds 5 = .ok (.iload 4, 2) := by decide +kernel
theorem dG_growByNeeds_7 : decode bG_growByNeeds 7 = .ok (.iload_n 2, 1) := by decide +kernel
theorem dG_growByNeeds_8 : decode bG_growByNeeds 8 = .ok (.if_icmp .ge 53, 3) := by decide +kernel
theorem dG_growByNeeds_11 : decode bG_growByNeeds 11 = .ok (.iload_n 3, 1) := by decide +kernel
theorem dG_growByNeeds_12 : decode bG_growByNeeds 12 = .ok (.aload_n 1, 1) := by decide +kernel
theorem dG_growByNeeds_13 : decode bG_growByNeeds 13 = .ok (.invokevirtual 82, 3) := by decide +kernel
theorem dG_growByNeeds_16 : decode bG_growByNeeds 16 = .ok (.if_icmp .ge 45, 3) := by decide +kernel
theorem dG_growByNeeds_19 : decode bG_growByNeeds 19 = .ok (.aload_n 1, 1) := by decide +kernel
theorem dG_growByNeeds_20 : decode bG_growByNeeds 20 = .ok (.invokevirtual 82, 3) := by decide +kernel
theorem dG_growByNeeds_23 : decode bG_growByNeeds 23 = .ok (.istore 5, 2) := by decide +kernel
theorem dG_growByNeeds_25 : decode bG_growByNeeds 25 = .ok (.iload_n 3, 1) := by decide +kernel
theorem dG_growByNeeds_26 : decode bG_growByNeeds 26 = .ok (.istore 6, 2) := by decide +kernel
theorem dG_growByNeeds_28 : decode bG_growByNeeds 28 = .ok (.iload 6, 2) := by decide +kernel
theorem dG_growByNeeds_30 : decode bG_growByNeeds 30 = .ok (.iload 5, 2) := by decide +kernel
theorem dG_growByNeeds_32 : decode bG_growByNeeds 32 = .ok (.if_icmp .ge 20, 3) := by decide +kernel
theorem dG_growByNeeds_35 : decode bG_growByNeeds 35 = .ok (.aload_n 0, 1) := by decide +kernel
theorem dG_growByNeeds_36 : decode bG_growByNeeds 36 = .ok (.aload_n 1, 1) := by decide +kernel
theorem dG_growByNeeds_37 : decode bG_growByNeeds 37 = .ok (.iload 6, 2) := by decide +kernel
theorem dG_growByNeeds_39 : decode bG_growByNeeds 39 = .ok (.invokevirtual 86, 3) := by decide +kernel
theorem dG_growByNeeds_42 : decode bG_growByNeeds 42 = .ok (.aload_n 1, 1) := by decide +kernel
theorem dG_growByNeeds_43 : decode bG_growByNeeds 43 = .ok (.invokevirtual 89, 3) := by decide +kernel
theorem dG_growByNeeds_46 : decode bG_growByNeeds 46 = .ok (.iinc 6 1, 3) := by decide +kernel
theorem dG_growByNeeds_49 : decode bG_growByNeeds 49 = .ok (.goto (-21), 3) := by decide +kernel
theorem dG_growByNeeds_52 : decode bG_growByNeeds 52 = .ok (.iload 5, 2) := by decide +kernel
theorem dG_growByNeeds_54 : decode bG_growByNeeds 54 = .ok (.istore_n 3, 1) := by decide +kernel
theorem dG_growByNeeds_55 : decode bG_growByNeeds 55 = .ok (.iinc 4 1, 3) := by decide +kernel
theorem dG_growByNeeds_58 : decode bG_growByNeeds 58 = .ok (.goto (-53), 3) := by decide +kernel
theorem dG_growByNeeds_61 : decode bG_growByNeeds 61 = .ok (.return_, 1) := by decide +kernel
theorem dG_addNeedsOf_0 : decode bG_addNeedsOf 0 = .ok (.iconst 0, 1) := by decide +kernel
theorem dG_addNeedsOf_1 : decode bG_addNeedsOf 1 = .ok (.istore_n 3, 1) := by decide +kernel
theorem dG_addNeedsOf_2 : decode bG_addNeedsOf 2 = .ok (.iload_n 3, 1) := by decide +kernel
theorem dG_addNeedsOf_3 : decode bG_addNeedsOf 3 = .ok (.bipush 8, 2) := by decide +kernel
theorem dG_addNeedsOf_5 : decode bG_addNeedsOf 5 = .ok (.if_icmp .ge 19, 3) := by decide +kernel
theorem dG_addNeedsOf_8 : decode bG_addNeedsOf 8 = .ok (.aload_n 2, 1) := by decide +kernel
theorem dG_addNeedsOf_9 : decode bG_addNeedsOf 9 = .ok (.aload_n 0, 1) := by decide +kernel
theorem dG_addNeedsOf_10 : decode bG_addNeedsOf 10 = .ok (.iload_n 1, 1) := by decide +kernel
theorem dG_addNeedsOf_11 : decode bG_addNeedsOf 11 = .ok (.iload_n 3, 1) := by decide +kernel
theorem dG_addNeedsOf_12 : decode bG_addNeedsOf 12 = .ok (.invokevirtual 72, 3) := by decide +kernel
theorem dG_addNeedsOf_15 : decode bG_addNeedsOf 15 = .ok (.invokevirtual 76, 3) := by decide +kernel
theorem dG_addNeedsOf_18 : decode bG_addNeedsOf 18 = .ok (.iinc 3 1, 3) := by decide +kernel
theorem dG_addNeedsOf_21 : decode bG_addNeedsOf 21 = .ok (.goto (-19), 3) := by decide +kernel
theorem dG_addNeedsOf_24 : decode bG_addNeedsOf 24 = .ok (.return_, 1) := by decide +kernel
theorem dG_growByUsers_0 : decode bG_growByUsers 0 = .ok (.iconst 0, 1) := by decide +kernel
theorem dG_growByUsers_1 : decode bG_growByUsers 1 = .ok (.istore_n 3, 1) := by decide +kernel
theorem dG_growByUsers_2 : decode bG_growByUsers 2 = .ok (.iconst 0, 1) := by decide +kernel
theorem dG_growByUsers_3 : decode bG_growByUsers 3 = .ok (.istore 4, 2) := by decide +kernel
theorem dG_growByUsers_5 : decode bG_growByUsers 5 = .ok (.iload 4, 2) := by decide +kernel
theorem dG_growByUsers_7 : decode bG_growByUsers 7 = .ok (.iload_n 2, 1) := by decide +kernel
theorem dG_growByUsers_8 : decode bG_growByUsers 8 = .ok (.if_icmp .ge 56, 3) := by decide +kernel
theorem dG_growByUsers_11 : decode bG_growByUsers 11 = .ok (.iload_n 3, 1) := by decide +kernel
theorem dG_growByUsers_12 : decode bG_growByUsers 12 = .ok (.aload_n 1, 1) := by decide +kernel
theorem dG_growByUsers_13 : decode bG_growByUsers 13 = .ok (.invokevirtual 82, 3) := by decide +kernel
theorem dG_growByUsers_16 : decode bG_growByUsers 16 = .ok (.if_icmp .ge 48, 3) := by decide +kernel
theorem dG_growByUsers_19 : decode bG_growByUsers 19 = .ok (.aload_n 1, 1) := by decide +kernel
theorem dG_growByUsers_20 : decode bG_growByUsers 20 = .ok (.invokevirtual 82, 3) := by decide +kernel
theorem dG_growByUsers_23 : decode bG_growByUsers 23 = .ok (.istore 5, 2) := by decide +kernel
theorem dG_growByUsers_25 : decode bG_growByUsers 25 = .ok (.iload_n 3, 1) := by decide +kernel
theorem dG_growByUsers_26 : decode bG_growByUsers 26 = .ok (.istore 6, 2) := by decide +kernel
theorem dG_growByUsers_28 : decode bG_growByUsers 28 = .ok (.iload 6, 2) := by decide +kernel
theorem dG_growByUsers_30 : decode bG_growByUsers 30 = .ok (.iload 5, 2) := by decide +kernel
theorem dG_growByUsers_32 : decode bG_growByUsers 32 = .ok (.if_icmp .ge 23, 3) := by decide +kernel
theorem dG_growByUsers_35 : decode bG_growByUsers 35 = .ok (.aload_n 1, 1) := by decide +kernel
theorem dG_growByUsers_36 : decode bG_growByUsers 36 = .ok (.aload_n 0, 1) := by decide +kernel
theorem dG_growByUsers_37 : decode bG_growByUsers 37 = .ok (.aload_n 1, 1) := by decide +kernel
theorem dG_growByUsers_38 : decode bG_growByUsers 38 = .ok (.iload 6, 2) := by decide +kernel
theorem dG_growByUsers_40 : decode bG_growByUsers 40 = .ok (.invokevirtual 86, 3) := by decide +kernel
theorem dG_growByUsers_43 : decode bG_growByUsers 43 = .ok (.invokevirtual 93, 3) := by decide +kernel
theorem dG_growByUsers_46 : decode bG_growByUsers 46 = .ok (.invokevirtual 96, 3) := by decide +kernel
theorem dG_growByUsers_49 : decode bG_growByUsers 49 = .ok (.iinc 6 1, 3) := by decide +kernel
theorem dG_growByUsers_52 : decode bG_growByUsers 52 = .ok (.goto (-24), 3) := by decide +kernel
theorem dG_growByUsers_55 : decode bG_growByUsers 55 = .ok (.iload 5, 2) := by decide +kernel
theorem dG_growByUsers_57 : decode bG_growByUsers 57 = .ok (.istore_n 3, 1) := by decide +kernel
theorem dG_growByUsers_58 : decode bG_growByUsers 58 = .ok (.iinc 4 1, 3) := by decide +kernel
theorem dG_growByUsers_61 : decode bG_growByUsers 61 = .ok (.goto (-56), 3) := by decide +kernel
theorem dG_growByUsers_64 : decode bG_growByUsers 64 = .ok (.return_, 1) := by decide +kernel
theorem dG_usersOf_0 : decode bG_usersOf 0 = .ok (.iload_n 1, 1) := by decide +kernel
theorem dG_usersOf_1 : decode bG_usersOf 1 = .ok (.aload_n 0, 1) := by decide +kernel
theorem dG_usersOf_2 : decode bG_usersOf 2 = .ok (.getfield 36, 3) := by decide +kernel
theorem dG_usersOf_5 : decode bG_usersOf 5 = .ok (.invokestatic 40, 3) := by decide +kernel
theorem dG_usersOf_8 : decode bG_usersOf 8 = .ok (.ifCond .eq 12, 3) := by decide +kernel
theorem dG_usersOf_11 : decode bG_usersOf 11 = .ok (.aload_n 0, 1) := by decide +kernel
theorem dG_usersOf_12 : decode bG_usersOf 12 = .ok (.getfield 30, 3) := by decide +kernel
theorem dG_usersOf_15 : decode bG_usersOf 15 = .ok (.iload_n 1, 1) := by decide +kernel
theorem dG_usersOf_16 : decode bG_usersOf 16 = .ok (.iaload, 1) := by decide +kernel
theorem dG_usersOf_17 : decode bG_usersOf 17 = .ok (.goto 4, 3) := by decide +kernel
theorem dG_usersOf_20 : decode bG_usersOf 20 = .ok (.iconst 0, 1) := by decide +kernel
theorem dG_usersOf_21 : decode bG_usersOf 21 = .ok (.ireturn, 1) := by decide +kernel
theorem dG_findWay_0 : decode bG_findWay 0 = .ok (.iconst 0, 1) := by decide +kernel
theorem dG_findWay_1 : decode bG_findWay 1 = .ok (.istore_n 3, 1) := by decide +kernel
theorem dG_findWay_2 : decode bG_findWay 2 = .ok (.iload_n 3, 1) := by decide +kernel
theorem dG_findWay_3 : decode bG_findWay 3 = .ok (.aload_n 0, 1) := by decide +kernel
theorem dG_findWay_4 : decode bG_findWay 4 = .ok (.getfield 33, 3) := by decide +kernel
theorem dG_findWay_7 : decode bG_findWay 7 = .ok (.arraylength, 1) := by decide +kernel
theorem dG_findWay_8 : decode bG_findWay 8 = .ok (.if_icmp .ge 16, 3) := by decide +kernel
theorem dG_findWay_11 : decode bG_findWay 11 = .ok (.aload_n 0, 1) := by decide +kernel
theorem dG_findWay_12 : decode bG_findWay 12 = .ok (.getfield 33, 3) := by decide +kernel
theorem dG_findWay_15 : decode bG_findWay 15 = .ok (.iload_n 3, 1) := by decide +kernel
theorem dG_findWay_16 : decode bG_findWay 16 = .ok (.iconst (-1), 1) := by decide +kernel
theorem dG_findWay_17 : decode bG_findWay 17 = .ok (.iastore, 1) := by decide +kernel
theorem dG_findWay_18 : decode bG_findWay 18 = .ok (.iinc 3 1, 3) := by decide +kernel
theorem dG_findWay_21 : decode bG_findWay 21 = .ok (.goto (-19), 3) := by decide +kernel
theorem dG_findWay_24 : decode bG_findWay 24 = .ok (.iconst (-1), 1) := by decide +kernel
theorem dG_findWay_25 : decode bG_findWay 25 = .ok (.istore_n 3, 1) := by decide +kernel
theorem dG_findWay_26 : decode bG_findWay 26 = .ok (.iconst 0, 1) := by decide +kernel
theorem dG_findWay_27 : decode bG_findWay 27 = .ok (.istore 4, 2) := by decide +kernel
theorem dG_findWay_29 : decode bG_findWay 29 = .ok (.iload 4, 2) := by decide +kernel
theorem dG_findWay_31 : decode bG_findWay 31 = .ok (.bipush 30, 2) := by decide +kernel
theorem dG_findWay_33 : decode bG_findWay 33 = .ok (.if_icmp .ge 53, 3) := by decide +kernel
theorem dG_findWay_36 : decode bG_findWay 36 = .ok (.iload 4, 2) := by decide +kernel
theorem dG_findWay_38 : decode bG_findWay 38 = .ok (.aload_n 1, 1) := by decide +kernel
theorem dG_findWay_39 : decode bG_findWay 39 = .ok (.invokevirtual 82, 3) := by decide +kernel
theorem dG_findWay_42 : decode bG_findWay 42 = .ok (.if_icmp .ge 44, 3) := by decide +kernel
theorem dG_findWay_45 : decode bG_findWay 45 = .ok (.iload_n 3, 1) := by decide +kernel
theorem dG_findWay_46 : decode bG_findWay 46 = .ok (.iconst (-1), 1) := by decide +kernel
theorem dG_findWay_47 : decode bG_findWay 47 = .ok (.if_icmp .ne 39, 3) := by decide +kernel
theorem dG_findWay_50 : decode bG_findWay 50 = .ok (.aload_n 1, 1) := by decide +kernel
theorem dG_findWay_51 : decode bG_findWay 51 = .ok (.iload 4, 2) := by decide +kernel
theorem dG_findWay_53 : decode bG_findWay 53 = .ok (.invokevirtual 86, 3) := by decide +kernel
theorem dG_findWay_56 : decode bG_findWay 56 = .ok (.istore 5, 2) := by decide +kernel
theorem dG_findWay_58 : decode bG_findWay 58 = .ok (.aload_n 2, 1) := by decide +kernel
theorem dG_findWay_59 : decode bG_findWay 59 = .ok (.iload 5, 2) := by decide +kernel
theorem dG_findWay_61 : decode bG_findWay 61 = .ok (.invokevirtual 99, 3) := by decide +kernel
theorem dG_findWay_64 : decode bG_findWay 64 = .ok (.ifCond .eq 9, 3) := by decide +kernel
theorem dG_findWay_67 : decode bG_findWay 67 = .ok (.iload 5, 2) := by decide +kernel
theorem dG_findWay_69 : decode bG_findWay 69 = .ok (.istore_n 3, 1) := by decide +kernel
theorem dG_findWay_70 : decode bG_findWay 70 = .ok (.goto 10, 3) := by decide +kernel
theorem dG_findWay_73 : decode bG_findWay 73 = .ok (.aload_n 0, 1) := by decide +kernel
theorem dG_findWay_74 : decode bG_findWay 74 = .ok (.iload 5, 2) := by decide +kernel
theorem dG_findWay_76 : decode bG_findWay 76 = .ok (.aload_n 1, 1) := by decide +kernel
theorem dG_findWay_77 : decode bG_findWay 77 = .ok (.invokevirtual 103, 3) := by decide +kernel
theorem dG_findWay_80 : decode bG_findWay 80 = .ok (.iinc 4 1, 3) := by decide +kernel
theorem dG_findWay_83 : decode bG_findWay 83 = .ok (.goto (-54), 3) := by decide +kernel
theorem dG_findWay_86 : decode bG_findWay 86 = .ok (.aload_n 1, 1) := by decide +kernel
theorem dG_findWay_87 : decode bG_findWay 87 = .ok (.invokevirtual 106, 3) := by decide +kernel
theorem dG_findWay_90 : decode bG_findWay 90 = .ok (.iload_n 3, 1) := by decide +kernel
theorem dG_findWay_91 : decode bG_findWay 91 = .ok (.istore 4, 2) := by decide +kernel
theorem dG_findWay_93 : decode bG_findWay 93 = .ok (.iconst 0, 1) := by decide +kernel
theorem dG_findWay_94 : decode bG_findWay 94 = .ok (.istore 5, 2) := by decide +kernel
theorem dG_findWay_96 : decode bG_findWay 96 = .ok (.iload 5, 2) := by decide +kernel
theorem dG_findWay_98 : decode bG_findWay 98 = .ok (.bipush 30, 2) := by decide +kernel
theorem dG_findWay_100 : decode bG_findWay 100 = .ok (.if_icmp .ge 37, 3) := by decide +kernel
theorem dG_findWay_103 : decode bG_findWay 103 = .ok (.iload 4, 2) := by decide +kernel
theorem dG_findWay_105 : decode bG_findWay 105 = .ok (.aload_n 0, 1) := by decide +kernel
theorem dG_findWay_106 : decode bG_findWay 106 = .ok (.getfield 33, 3) := by decide +kernel
theorem dG_findWay_109 : decode bG_findWay 109 = .ok (.arraylength, 1) := by decide +kernel
theorem dG_findWay_110 : decode bG_findWay 110 = .ok (.invokestatic 40, 3) := by decide +kernel
theorem dG_findWay_113 : decode bG_findWay 113 = .ok (.ifCond .eq 24, 3) := by decide +kernel
theorem dG_findWay_116 : decode bG_findWay 116 = .ok (.aload_n 1, 1) := by decide +kernel
theorem dG_findWay_117 : decode bG_findWay 117 = .ok (.iload 4, 2) := by decide +kernel
theorem dG_findWay_119 : decode bG_findWay 119 = .ok (.invokevirtual 76, 3) := by decide +kernel
theorem dG_findWay_122 : decode bG_findWay 122 = .ok (.aload_n 0, 1) := by decide +kernel
theorem dG_findWay_123 : decode bG_findWay 123 = .ok (.getfield 33, 3) := by decide +kernel
theorem dG_findWay_126 : decode bG_findWay 126 = .ok (.iload 4, 2) := by decide +kernel
theorem dG_findWay_128 : decode bG_findWay 128 = .ok (.iaload, 1) := by decide +kernel
theorem dG_findWay_129 : decode bG_findWay 129 = .ok (.istore 4, 2) := by decide +kernel
theorem dG_findWay_131 : decode bG_findWay 131 = .ok (.iinc 5 1, 3) := by decide +kernel
theorem dG_findWay_134 : decode bG_findWay 134 = .ok (.goto (-38), 3) := by decide +kernel
theorem dG_findWay_137 : decode bG_findWay 137 = .ok (.aload_n 1, 1) := by decide +kernel
theorem dG_findWay_138 : decode bG_findWay 138 = .ok (.invokevirtual 109, 3) := by decide +kernel
theorem dG_findWay_141 : decode bG_findWay 141 = .ok (.return_, 1) := by decide +kernel
theorem dG_noteNeedsOf_0 : decode bG_noteNeedsOf 0 = .ok (.iconst 0, 1) := by decide +kernel
theorem dG_noteNeedsOf_1 : decode bG_noteNeedsOf 1 = .ok (.istore_n 3, 1) := by decide +kernel
theorem dG_noteNeedsOf_2 : decode bG_noteNeedsOf 2 = .ok (.iload_n 3, 1) := by decide +kernel
theorem dG_noteNeedsOf_3 : decode bG_noteNeedsOf 3 = .ok (.bipush 8, 2) := by decide +kernel
theorem dG_noteNeedsOf_5 : decode bG_noteNeedsOf 5 = .ok (.if_icmp .ge 53, 3) := by decide +kernel
theorem dG_noteNeedsOf_8 : decode bG_noteNeedsOf 8 = .ok (.aload_n 0, 1) := by decide +kernel
theorem dG_noteNeedsOf_9 : decode bG_noteNeedsOf 9 = .ok (.iload_n 1, 1) := by decide +kernel
theorem dG_noteNeedsOf_10 : decode bG_noteNeedsOf 10 = .ok (.iload_n 3, 1) := by decide +kernel
theorem dG_noteNeedsOf_11 : decode bG_noteNeedsOf 11 = .ok (.invokevirtual 72, 3) := by decide +kernel
theorem dG_noteNeedsOf_14 : decode bG_noteNeedsOf 14 = .ok (.istore 4, 2) := by decide +kernel
theorem dG_noteNeedsOf_16 : decode bG_noteNeedsOf 16 = .ok (.iload 4, 2) := by decide +kernel
theorem dG_noteNeedsOf_18 : decode bG_noteNeedsOf 18 = .ok (.aload_n 0, 1) := by decide +kernel
theorem dG_noteNeedsOf_19 : decode bG_noteNeedsOf 19 = .ok (.getfield 33, 3) := by decide +kernel
theorem dG_noteNeedsOf_22 : decode bG_noteNeedsOf 22 = .ok (.arraylength, 1) := by decide +kernel
theorem dG_noteNeedsOf_23 : decode bG_noteNeedsOf 23 = .ok (.invokestatic 40, 3) := by decide +kernel
theorem dG_noteNeedsOf_26 : decode bG_noteNeedsOf 26 = .ok (.ifCond .eq 26, 3) := by decide +kernel
theorem dG_noteNeedsOf_29 : decode bG_noteNeedsOf 29 = .ok (.aload_n 2, 1) := by decide +kernel
theorem dG_noteNeedsOf_30 : decode bG_noteNeedsOf 30 = .ok (.iload 4, 2) := by decide +kernel
theorem dG_noteNeedsOf_32 : decode bG_noteNeedsOf 32 = .ok (.invokevirtual 99, 3) := by decide +kernel
theorem dG_noteNeedsOf_35 : decode bG_noteNeedsOf 35 = .ok (.ifCond .ne 17, 3) := by decide +kernel
theorem dG_noteNeedsOf_38 : decode bG_noteNeedsOf 38 = .ok (.aload_n 0, 1) := by decide +kernel
theorem dG_noteNeedsOf_39 : decode bG_noteNeedsOf 39 = .ok (.getfield 33, 3) := by decide +kernel
theorem dG_noteNeedsOf_42 : decode bG_noteNeedsOf 42 = .ok (.iload 4, 2) := by decide +kernel
theorem dG_noteNeedsOf_44 : decode bG_noteNeedsOf 44 = .ok (.iload_n 1, 1) := by decide +kernel
theorem dG_noteNeedsOf_45 : decode bG_noteNeedsOf 45 = .ok (.iastore, 1) := by decide +kernel
theorem dG_noteNeedsOf_46 : decode bG_noteNeedsOf 46 = .ok (.aload_n 2, 1) := by decide +kernel
theorem dG_noteNeedsOf_47 : decode bG_noteNeedsOf 47 = .ok (.iload 4, 2) := by decide +kernel
theorem dG_noteNeedsOf_49 : decode bG_noteNeedsOf 49 = .ok (.invokevirtual 76, 3) := by decide +kernel
theorem dG_noteNeedsOf_52 : decode bG_noteNeedsOf 52 = .ok (.iinc 3 1, 3) := by decide +kernel
theorem dG_noteNeedsOf_55 : decode bG_noteNeedsOf 55 = .ok (.goto (-53), 3) := by decide +kernel
theorem dG_noteNeedsOf_58 : decode bG_noteNeedsOf 58 = .ok (.return_, 1) := by decide +kernel
theorem dG_keepKind_0 : decode bG_keepKind 0 = .ok (.aload_n 1, 1) := by decide +kernel
theorem dG_keepKind_1 : decode bG_keepKind 1 = .ok (.aload_n 0, 1) := by decide +kernel
theorem dG_keepKind_2 : decode bG_keepKind 2 = .ok (.iload_n 2, 1) := by decide +kernel
theorem dG_keepKind_3 : decode bG_keepKind 3 = .ok (.invokevirtual 112, 3) := by decide +kernel
theorem dG_keepKind_6 : decode bG_keepKind 6 = .ok (.invokevirtual 115, 3) := by decide +kernel
theorem dG_keepKind_9 : decode bG_keepKind 9 = .ok (.return_, 1) := by decide +kernel
theorem dG_findTests_0 : decode bG_findTests 0 = .ok (.aload_n 1, 1) := by decide +kernel
theorem dG_findTests_1 : decode bG_findTests 1 = .ok (.invokevirtual 118, 3) := by decide +kernel
theorem dG_findTests_4 : decode bG_findTests 4 = .ok (.istore_n 2, 1) := by decide +kernel
theorem dG_findTests_5 : decode bG_findTests 5 = .ok (.iconst 0, 1) := by decide +kernel
theorem dG_findTests_6 : decode bG_findTests 6 = .ok (.istore_n 3, 1) := by decide +kernel
theorem dG_findTests_7 : decode bG_findTests 7 = .ok (.iload_n 3, 1) := by decide +kernel
theorem dG_findTests_8 : decode bG_findTests 8 = .ok (.bipush 30, 2) := by decide +kernel
theorem dG_findTests_10 : decode bG_findTests 10 = .ok (.if_icmp .ge 21, 3) := by decide +kernel
theorem dG_findTests_13 : decode bG_findTests 13 = .ok (.iload_n 2, 1) := by decide +kernel
theorem dG_findTests_14 : decode bG_findTests 14 = .ok (.aload_n 0, 1) := by decide +kernel
theorem dG_findTests_15 : decode bG_findTests 15 = .ok (.aload_n 0, 1) := by decide +kernel
theorem dG_findTests_16 : decode bG_findTests 16 = .ok (.getfield 30, 3) := by decide +kernel
theorem dG_findTests_19 : decode bG_findTests 19 = .ok (.iload_n 2, 1) := by decide +kernel
theorem dG_findTests_20 : decode bG_findTests 20 = .ok (.invokevirtual 60, 3) := by decide +kernel
theorem dG_findTests_23 : decode bG_findTests 23 = .ok (.ior, 1) := by decide +kernel
theorem dG_findTests_24 : decode bG_findTests 24 = .ok (.istore_n 2, 1) := by decide +kernel
theorem dG_findTests_25 : decode bG_findTests 25 = .ok (.iinc 3 1, 3) := by decide +kernel
theorem dG_findTests_28 : decode bG_findTests 28 = .ok (.goto (-21), 3) := by decide +kernel
theorem dG_findTests_31 : decode bG_findTests 31 = .ok (.aload_n 1, 1) := by decide +kernel
theorem dG_findTests_32 : decode bG_findTests 32 = .ok (.invokevirtual 106, 3) := by decide +kernel
theorem dG_findTests_35 : decode bG_findTests 35 = .ok (.aload_n 1, 1) := by decide +kernel
theorem dG_findTests_36 : decode bG_findTests 36 = .ok (.iload_n 2, 1) := by decide +kernel
theorem dG_findTests_37 : decode bG_findTests 37 = .ok (.aload_n 0, 1) := by decide +kernel
theorem dG_findTests_38 : decode bG_findTests 38 = .ok (.iconst 3, 1) := by decide +kernel
theorem dG_findTests_39 : decode bG_findTests 39 = .ok (.invokevirtual 112, 3) := by decide +kernel
theorem dG_findTests_42 : decode bG_findTests 42 = .ok (.iand, 1) := by decide +kernel
theorem dG_findTests_43 : decode bG_findTests 43 = .ok (.invokevirtual 96, 3) := by decide +kernel
theorem dG_findTests_46 : decode bG_findTests 46 = .ok (.return_, 1) := by decide +kernel
theorem dG_ofKind_0 : decode bG_ofKind 0 = .ok (.iconst 0, 1) := by decide +kernel
theorem dG_ofKind_1 : decode bG_ofKind 1 = .ok (.istore_n 2, 1) := by decide +kernel
theorem dG_ofKind_2 : decode bG_ofKind 2 = .ok (.iconst 0, 1) := by decide +kernel
theorem dG_ofKind_3 : decode bG_ofKind 3 = .ok (.istore_n 3, 1) := by decide +kernel
theorem dG_ofKind_4 : decode bG_ofKind 4 = .ok (.iload_n 3, 1) := by decide +kernel
theorem dG_ofKind_5 : decode bG_ofKind 5 = .ok (.aload_n 0, 1) := by decide +kernel
theorem dG_ofKind_6 : decode bG_ofKind 6 = .ok (.getfield 36, 3) := by decide +kernel
theorem dG_ofKind_9 : decode bG_ofKind 9 = .ok (.if_icmp .ge 34, 3) := by decide +kernel
theorem dG_ofKind_12 : decode bG_ofKind 12 = .ok (.iload_n 3, 1) := by decide +kernel
theorem dG_ofKind_13 : decode bG_ofKind 13 = .ok (.aload_n 0, 1) := by decide +kernel
theorem dG_ofKind_14 : decode bG_ofKind 14 = .ok (.getfield 15, 3) := by decide +kernel
theorem dG_ofKind_17 : decode bG_ofKind 17 = .ok (.arraylength, 1) := by decide +kernel
theorem dG_ofKind_18 : decode bG_ofKind 18 = .ok (.if_icmp .ge 25, 3) := by decide +kernel
theorem dG_ofKind_21 : decode bG_ofKind 21 = .ok (.aload_n 0, 1) := by decide +kernel
theorem dG_ofKind_22 : decode bG_ofKind 22 = .ok (.getfield 15, 3) := by decide +kernel
theorem dG_ofKind_25 : decode bG_ofKind 25 = .ok (.iload_n 3, 1) := by decide +kernel
theorem dG_ofKind_26 : decode bG_ofKind 26 = .ok (.iaload, 1) := by decide +kernel
theorem dG_ofKind_27 : decode bG_ofKind 27 = .ok (.iload_n 1, 1) := by decide +kernel
theorem dG_ofKind_28 : decode bG_ofKind 28 = .ok (.if_icmp .ne 9, 3) := by decide +kernel
theorem dG_ofKind_31 : decode bG_ofKind 31 = .ok (.iload_n 2, 1) := by decide +kernel
theorem dG_ofKind_32 : decode bG_ofKind 32 = .ok (.iconst 1, 1) := by decide +kernel
theorem dG_ofKind_33 : decode bG_ofKind 33 = .ok (.iload_n 3, 1) := by decide +kernel
theorem dG_ofKind_34 : decode bG_ofKind 34 = .ok (.ishl, 1) := by decide +kernel
theorem dG_ofKind_35 : decode bG_ofKind 35 = .ok (.ior, 1) := by decide +kernel
theorem dG_ofKind_36 : decode bG_ofKind 36 = .ok (.istore_n 2, 1) := by decide +kernel
theorem dG_ofKind_37 : decode bG_ofKind 37 = .ok (.iinc 3 1, 3) := by decide +kernel
theorem dG_ofKind_40 : decode bG_ofKind 40 = .ok (.goto (-36), 3) := by decide +kernel
theorem dG_ofKind_43 : decode bG_ofKind 43 = .ok (.iload_n 2, 1) := by decide +kernel
theorem dG_ofKind_44 : decode bG_ofKind 44 = .ok (.ireturn, 1) := by decide +kernel
theorem dG_findSame_0 : decode bG_findSame 0 = .ok (.iconst 0, 1) := by decide +kernel
theorem dG_findSame_1 : decode bG_findSame 1 = .ok (.istore_n 2, 1) := by decide +kernel
theorem dG_findSame_2 : decode bG_findSame 2 = .ok (.iconst 0, 1) := by decide +kernel
theorem dG_findSame_3 : decode bG_findSame 3 = .ok (.istore_n 3, 1) := by decide +kernel
theorem dG_findSame_4 : decode bG_findSame 4 = .ok (.iload_n 3, 1) := by decide +kernel
theorem dG_findSame_5 : decode bG_findSame 5 = .ok (.aload_n 1, 1) := by decide +kernel
theorem dG_findSame_6 : decode bG_findSame 6 = .ok (.invokevirtual 82, 3) := by decide +kernel
theorem dG_findSame_9 : decode bG_findSame 9 = .ok (.if_icmp .ge 23, 3) := by decide +kernel
theorem dG_findSame_12 : decode bG_findSame 12 = .ok (.iload_n 2, 1) := by decide +kernel
theorem dG_findSame_13 : decode bG_findSame 13 = .ok (.iconst 1, 1) := by decide +kernel
theorem dG_findSame_14 : decode bG_findSame 14 = .ok (.aload_n 0, 1) := by decide +kernel
theorem dG_findSame_15 : decode bG_findSame 15 = .ok (.aload_n 1, 1) := by decide +kernel
theorem dG_findSame_16 : decode bG_findSame 16 = .ok (.iload_n 3, 1) := by decide +kernel
theorem dG_findSame_17 : decode bG_findSame 17 = .ok (.invokevirtual 86, 3) := by decide +kernel
theorem dG_findSame_20 : decode bG_findSame 20 = .ok (.invokevirtual 121, 3) := by decide +kernel
theorem dG_findSame_23 : decode bG_findSame 23 = .ok (.ishl, 1) := by decide +kernel
theorem dG_findSame_24 : decode bG_findSame 24 = .ok (.ior, 1) := by decide +kernel
theorem dG_findSame_25 : decode bG_findSame 25 = .ok (.istore_n 2, 1) := by decide +kernel
theorem dG_findSame_26 : decode bG_findSame 26 = .ok (.iinc 3 1, 3) := by decide +kernel
theorem dG_findSame_29 : decode bG_findSame 29 = .ok (.goto (-25), 3) := by decide +kernel
theorem dG_findSame_32 : decode bG_findSame 32 = .ok (.aload_n 1, 1) := by decide +kernel
theorem dG_findSame_33 : decode bG_findSame 33 = .ok (.invokevirtual 106, 3) := by decide +kernel
theorem dG_findSame_36 : decode bG_findSame 36 = .ok (.iconst 0, 1) := by decide +kernel
theorem dG_findSame_37 : decode bG_findSame 37 = .ok (.istore_n 3, 1) := by decide +kernel
theorem dG_findSame_38 : decode bG_findSame 38 = .ok (.iload_n 3, 1) := by decide +kernel
theorem dG_findSame_39 : decode bG_findSame 39 = .ok (.aload_n 0, 1) := by decide +kernel
theorem dG_findSame_40 : decode bG_findSame 40 = .ok (.getfield 36, 3) := by decide +kernel
theorem dG_findSame_43 : decode bG_findSame 43 = .ok (.if_icmp .ge 26, 3) := by decide +kernel
theorem dG_findSame_46 : decode bG_findSame 46 = .ok (.iload_n 2, 1) := by decide +kernel
theorem dG_findSame_47 : decode bG_findSame 47 = .ok (.aload_n 0, 1) := by decide +kernel
theorem dG_findSame_48 : decode bG_findSame 48 = .ok (.iload_n 3, 1) := by decide +kernel
theorem dG_findSame_49 : decode bG_findSame 49 = .ok (.invokevirtual 121, 3) := by decide +kernel
theorem dG_findSame_52 : decode bG_findSame 52 = .ok (.iushr, 1) := by decide +kernel
theorem dG_findSame_53 : decode bG_findSame 53 = .ok (.iconst 1, 1) := by decide +kernel
theorem dG_findSame_54 : decode bG_findSame 54 = .ok (.iand, 1) := by decide +kernel
theorem dG_findSame_55 : decode bG_findSame 55 = .ok (.ifCond .eq 8, 3) := by decide +kernel
theorem dG_findSame_58 : decode bG_findSame 58 = .ok (.aload_n 1, 1) := by decide +kernel
theorem dG_findSame_59 : decode bG_findSame 59 = .ok (.iload_n 3, 1) := by decide +kernel
theorem dG_findSame_60 : decode bG_findSame 60 = .ok (.invokevirtual 76, 3) := by decide +kernel
theorem dG_findSame_63 : decode bG_findSame 63 = .ok (.iinc 3 1, 3) := by decide +kernel
theorem dG_findSame_66 : decode bG_findSame 66 = .ok (.goto (-28), 3) := by decide +kernel
theorem dG_findSame_69 : decode bG_findSame 69 = .ok (.return_, 1) := by decide +kernel
theorem dG_packOf_0 : decode bG_packOf 0 = .ok (.iload_n 1, 1) := by decide +kernel
theorem dG_packOf_1 : decode bG_packOf 1 = .ok (.aload_n 0, 1) := by decide +kernel
theorem dG_packOf_2 : decode bG_packOf 2 = .ok (.getfield 36, 3) := by decide +kernel
theorem dG_packOf_5 : decode bG_packOf 5 = .ok (.invokestatic 40, 3) := by decide +kernel
theorem dG_packOf_8 : decode bG_packOf 8 = .ok (.ifCond .eq 15, 3) := by decide +kernel
theorem dG_packOf_11 : decode bG_packOf 11 = .ok (.aload_n 0, 1) := by decide +kernel
theorem dG_packOf_12 : decode bG_packOf 12 = .ok (.getfield 9, 3) := by decide +kernel
theorem dG_packOf_15 : decode bG_packOf 15 = .ok (.iload_n 1, 1) := by decide +kernel
theorem dG_packOf_16 : decode bG_packOf 16 = .ok (.iaload, 1) := by decide +kernel
theorem dG_packOf_17 : decode bG_packOf 17 = .ok (.bipush 10, 2) := by decide +kernel
theorem dG_packOf_19 : decode bG_packOf 19 = .ok (.idiv, 1) := by decide +kernel
theorem dG_packOf_20 : decode bG_packOf 20 = .ok (.goto 5, 3) := by decide +kernel
theorem dG_packOf_23 : decode bG_packOf 23 = .ok (.bipush 6, 2) := by decide +kernel
theorem dG_packOf_25 : decode bG_packOf 25 = .ok (.ireturn, 1) := by decide +kernel
theorem dG_below_0 : decode bG_below 0 = .ok (.iload_n 0, 1) := by decide +kernel
theorem dG_below_1 : decode bG_below 1 = .ok (.ifCond .lt 12, 3) := by decide +kernel
theorem dG_below_4 : decode bG_below 4 = .ok (.iload_n 0, 1) := by decide +kernel
theorem dG_below_5 : decode bG_below 5 = .ok (.iload_n 1, 1) := by decide +kernel
theorem dG_below_6 : decode bG_below 6 = .ok (.if_icmp .ge 7, 3) := by decide +kernel
theorem dG_below_9 : decode bG_below 9 = .ok (.iconst 1, 1) := by decide +kernel
theorem dG_below_10 : decode bG_below 10 = .ok (.goto 4, 3) := by decide +kernel
theorem dG_below_13 : decode bG_below 13 = .ok (.iconst 0, 1) := by decide +kernel
theorem dG_below_14 : decode bG_below 14 = .ok (.ireturn, 1) := by decide +kernel
