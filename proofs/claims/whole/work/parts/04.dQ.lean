theorem dQ_init_0 : decode bQ_init 0 = .ok (.aload_n 0, 1) := by decide +kernel
theorem dQ_init_1 : decode bQ_init 1 = .ok (.invokespecial 3, 3) := by decide +kernel
theorem dQ_init_4 : decode bQ_init 4 = .ok (.aload_n 0, 1) := by decide +kernel
theorem dQ_init_5 : decode bQ_init 5 = .ok (.new 9, 3) := by decide +kernel
theorem dQ_init_8 : decode bQ_init 8 = .ok (.dup, 1) := by decide +kernel
theorem dQ_init_9 : decode bQ_init 9 = .ok (.invokespecial 11, 3) := by decide +kernel
theorem dQ_init_12 : decode bQ_init 12 = .ok (.putfield 12, 3) := by decide +kernel
theorem dQ_init_15 : decode bQ_init 15 = .ok (.aload_n 0, 1) := by decide +kernel
theorem dQ_init_16 : decode bQ_init 16 = .ok (.new 16, 3) := by decide +kernel
theorem dQ_init_19 : decode bQ_init 19 = .ok (.dup, 1) := by decide +kernel
theorem dQ_init_20 : decode bQ_init 20 = .ok (.invokespecial 18, 3) := by decide +kernel
theorem dQ_init_23 : decode bQ_init 23 = .ok (.putfield 19, 3) := by decide +kernel
theorem dQ_init_26 : decode bQ_init 26 = .ok (.aload_n 0, 1) := by decide +kernel
theorem dQ_init_27 : decode bQ_init 27 = .ok (.new 23, 3) := by decide +kernel
theorem dQ_init_30 : decode bQ_init 30 = .ok (.dup, 1) := by decide +kernel
theorem dQ_init_31 : decode bQ_init 31 = .ok (.invokespecial 25, 3) := by decide +kernel
theorem dQ_init_34 : decode bQ_init 34 = .ok (.putfield 26, 3) := by decide +kernel
theorem dQ_init_37 : decode bQ_init 37 = .ok (.aload_n 0, 1) := by decide +kernel
theorem dQ_init_38 : decode bQ_init 38 = .ok (.new 30, 3) := by decide +kernel
theorem dQ_init_41 : decode bQ_init 41 = .ok (.dup, 1) := by decide +kernel
theorem dQ_init_42 : decode bQ_init 42 = .ok (.invokespecial 32, 3) := by decide +kernel
theorem dQ_init_45 : decode bQ_init 45 = .ok (.putfield 33, 3) := by decide +kernel
theorem dQ_init_48 : decode bQ_init 48 = .ok (.aload_n 0, 1) := by decide +kernel
theorem dQ_init_49 : decode bQ_init 49 = .ok (.new 37, 3) := by decide +kernel
theorem dQ_init_52 : decode bQ_init 52 = .ok (.dup, 1) := by decide +kernel
theorem dQ_init_53 : decode bQ_init 53 = .ok (.invokespecial 39, 3) := by decide +kernel
theorem dQ_init_56 : decode bQ_init 56 = .ok (.putfield 40, 3) := by decide +kernel
theorem dQ_init_59 : decode bQ_init 59 = .ok (.aload_n 0, 1) := by decide +kernel
theorem dQ_init_60 : decode bQ_init 60 = .ok (.iconst 0, 1) := by decide +kernel
theorem dQ_init_61 : decode bQ_init 61 = .ok (.putfield 44, 3) := by decide +kernel
theorem dQ_init_64 : decode bQ_init 64 = .ok (.aload_n 0, 1) := by decide +kernel
theorem dQ_init_65 : decode bQ_init 65 = .ok (.iconst (-1), 1) := by decide +kernel
theorem dQ_init_66 : decode bQ_init 66 = .ok (.putfield 48, 3) := by decide +kernel
theorem dQ_init_69 : decode bQ_init 69 = .ok (.return_, 1) := by decide +kernel
theorem dQ_target_0 : decode bQ_target 0 = .ok (.aload_n 0, 1) := by decide +kernel
theorem dQ_target_1 : decode bQ_target 1 = .ok (.getfield 12, 3) := by decide +kernel
theorem dQ_target_4 : decode bQ_target 4 = .ok (.iload_n 1, 1) := by decide +kernel
theorem dQ_target_5 : decode bQ_target 5 = .ok (.iload_n 2, 1) := by decide +kernel
theorem dQ_target_6 : decode bQ_target 6 = .ok (.iload_n 3, 1) := by decide +kernel
theorem dQ_target_7 : decode bQ_target 7 = .ok (.invokevirtual 51, 3) := by decide +kernel
theorem dQ_target_10 : decode bQ_target 10 = .ok (.ireturn, 1) := by decide +kernel
theorem dQ_needs_0 : decode bQ_needs 0 = .ok (.aload_n 0, 1) := by decide +kernel
theorem dQ_needs_1 : decode bQ_needs 1 = .ok (.getfield 12, 3) := by decide +kernel
theorem dQ_needs_4 : decode bQ_needs 4 = .ok (.iload_n 1, 1) := by decide +kernel
theorem dQ_needs_5 : decode bQ_needs 5 = .ok (.iload_n 2, 1) := by decide +kernel
theorem dQ_needs_6 : decode bQ_needs 6 = .ok (.invokevirtual 55, 3) := by decide +kernel
theorem dQ_needs_9 : decode bQ_needs 9 = .ok (.ireturn, 1) := by decide +kernel
theorem dQ_need_0 : decode bQ_need 0 = .ok (.aload_n 0, 1) := by decide +kernel
theorem dQ_need_1 : decode bQ_need 1 = .ok (.getfield 12, 3) := by decide +kernel
theorem dQ_need_4 : decode bQ_need 4 = .ok (.iload_n 1, 1) := by decide +kernel
theorem dQ_need_5 : decode bQ_need 5 = .ok (.iload_n 2, 1) := by decide +kernel
theorem dQ_need_6 : decode bQ_need 6 = .ok (.invokevirtual 59, 3) := by decide +kernel
theorem dQ_need_9 : decode bQ_need 9 = .ok (.ireturn, 1) := by decide +kernel
theorem dQ_type_0 : decode bQ_type 0 = .ok (.aload_n 0, 1) := by decide +kernel
theorem dQ_type_1 : decode bQ_type 1 = .ok (.getfield 19, 3) := by decide +kernel
theorem dQ_type_4 : decode bQ_type 4 = .ok (.iload_n 1, 1) := by decide +kernel
theorem dQ_type_5 : decode bQ_type 5 = .ok (.invokevirtual 63, 3) := by decide +kernel
theorem dQ_type_8 : decode bQ_type 8 = .ok (.ireturn, 1) := by decide +kernel
theorem dQ_ask_0 : decode bQ_ask 0 = .ok (.aload_n 0, 1) := by decide +kernel
theorem dQ_ask_1 : decode bQ_ask 1 = .ok (.getfield 26, 3) := by decide +kernel
theorem dQ_ask_4 : decode bQ_ask 4 = .ok (.aload_n 0, 1) := by decide +kernel
theorem dQ_ask_5 : decode bQ_ask 5 = .ok (.getfield 19, 3) := by decide +kernel
theorem dQ_ask_8 : decode bQ_ask 8 = .ok (.invokevirtual 67, 3) := by decide +kernel
theorem dQ_ask_11 : decode bQ_ask 11 = .ok (.istore_n 1, 1) := by decide +kernel
theorem dQ_ask_12 : decode bQ_ask 12 = .ok (.aload_n 0, 1) := by decide +kernel
theorem dQ_ask_13 : decode bQ_ask 13 = .ok (.getfield 19, 3) := by decide +kernel
theorem dQ_ask_16 : decode bQ_ask 16 = .ok (.invokevirtual 71, 3) := by decide +kernel
theorem dQ_ask_19 : decode bQ_ask 19 = .ok (.iload_n 1, 1) := by decide +kernel
theorem dQ_ask_20 : decode bQ_ask 20 = .ok (.ifCond .ne 13, 3) := by decide +kernel
theorem dQ_ask_23 : decode bQ_ask 23 = .ok (.iconst (-1), 1) := by decide +kernel
theorem dQ_ask_24 : decode bQ_ask 24 = .ok (.aload_n 0, 1) := by decide +kernel
theorem dQ_ask_25 : decode bQ_ask 25 = .ok (.getfield 26, 3) := by decide +kernel
theorem dQ_ask_28 : decode bQ_ask 28 = .ok (.invokevirtual 74, 3) := by decide +kernel
theorem dQ_ask_31 : decode bQ_ask 31 = .ok (.isub, 1) := by decide +kernel
theorem dQ_ask_32 : decode bQ_ask 32 = .ok (.ireturn, 1) := by decide +kernel
theorem dQ_ask_33 : decode bQ_ask 33 = .ok (.aload_n 0, 1) := by decide +kernel
theorem dQ_ask_34 : decode bQ_ask 34 = .ok (.getfield 26, 3) := by decide +kernel
theorem dQ_ask_37 : decode bQ_ask 37 = .ok (.invokevirtual 78, 3) := by decide +kernel
theorem dQ_ask_40 : decode bQ_ask 40 = .ok (.astore_n 2, 1) := by decide +kernel
theorem dQ_ask_41 : decode bQ_ask 41 = .ok (.aload_n 0, 1) := by decide +kernel
theorem dQ_ask_42 : decode bQ_ask 42 = .ok (.aload_n 2, 1) := by decide +kernel
theorem dQ_ask_43 : decode bQ_ask 43 = .ok (.invokevirtual 82, 3) := by decide +kernel
theorem dQ_ask_46 : decode bQ_ask 46 = .ok (.istore_n 3, 1) := by decide +kernel
theorem dQ_ask_47 : decode bQ_ask 47 = .ok (.iload_n 3, 1) := by decide +kernel
theorem dQ_ask_48 : decode bQ_ask 48 = .ok (.iconst (-1), 1) := by decide +kernel
theorem dQ_ask_49 : decode bQ_ask 49 = .ok (.if_icmp .eq 21, 3) := by decide +kernel
theorem dQ_ask_52 : decode bQ_ask 52 = .ok (.aload_n 0, 1) := by decide +kernel
theorem dQ_ask_53 : decode bQ_ask 53 = .ok (.aload_n 2, 1) := by decide +kernel
theorem dQ_ask_54 : decode bQ_ask 54 = .ok (.iload_n 3, 1) := by decide +kernel
theorem dQ_ask_55 : decode bQ_ask 55 = .ok (.invokevirtual 86, 3) := by decide +kernel
theorem dQ_ask_58 : decode bQ_ask 58 = .ok (.putfield 48, 3) := by decide +kernel
theorem dQ_ask_61 : decode bQ_ask 61 = .ok (.bipush (-101), 2) := by decide +kernel
theorem dQ_ask_63 : decode bQ_ask 63 = .ok (.aload_n 2, 1) := by decide +kernel
theorem dQ_ask_64 : decode bQ_ask 64 = .ok (.iload_n 3, 1) := by decide +kernel
theorem dQ_ask_65 : decode bQ_ask 65 = .ok (.invokevirtual 92, 3) := by decide +kernel
theorem dQ_ask_68 : decode bQ_ask 68 = .ok (.isub, 1) := by decide +kernel
theorem dQ_ask_69 : decode bQ_ask 69 = .ok (.ireturn, 1) := by decide +kernel
theorem dQ_ask_70 : decode bQ_ask 70 = .ok (.aload_n 0, 1) := by decide +kernel
theorem dQ_ask_71 : decode bQ_ask 71 = .ok (.aload_n 0, 1) := by decide +kernel
theorem dQ_ask_72 : decode bQ_ask 72 = .ok (.getfield 33, 3) := by decide +kernel
theorem dQ_ask_75 : decode bQ_ask 75 = .ok (.aload_n 2, 1) := by decide +kernel
theorem dQ_ask_76 : decode bQ_ask 76 = .ok (.aload_n 0, 1) := by decide +kernel
theorem dQ_ask_77 : decode bQ_ask 77 = .ok (.getfield 12, 3) := by decide +kernel
theorem dQ_ask_80 : decode bQ_ask 80 = .ok (.invokevirtual 95, 3) := by decide +kernel
theorem dQ_ask_83 : decode bQ_ask 83 = .ok (.putfield 44, 3) := by decide +kernel
theorem dQ_ask_86 : decode bQ_ask 86 = .ok (.aload_n 0, 1) := by decide +kernel
theorem dQ_ask_87 : decode bQ_ask 87 = .ok (.getfield 40, 3) := by decide +kernel
theorem dQ_ask_90 : decode bQ_ask 90 = .ok (.aload_n 0, 1) := by decide +kernel
theorem dQ_ask_91 : decode bQ_ask 91 = .ok (.getfield 33, 3) := by decide +kernel
theorem dQ_ask_94 : decode bQ_ask 94 = .ok (.invokevirtual 99, 3) := by decide +kernel
theorem dQ_ask_97 : decode bQ_ask 97 = .ok (.invokevirtual 103, 3) := by decide +kernel
theorem dQ_ask_100 : decode bQ_ask 100 = .ok (.aload_n 0, 1) := by decide +kernel
theorem dQ_ask_101 : decode bQ_ask 101 = .ok (.getfield 40, 3) := by decide +kernel
theorem dQ_ask_104 : decode bQ_ask 104 = .ok (.invokevirtual 107, 3) := by decide +kernel
theorem dQ_ask_107 : decode bQ_ask 107 = .ok (.ireturn, 1) := by decide +kernel
theorem dQ_answer_0 : decode bQ_answer 0 = .ok (.aload_n 0, 1) := by decide +kernel
theorem dQ_answer_1 : decode bQ_answer 1 = .ok (.getfield 40, 3) := by decide +kernel
theorem dQ_answer_4 : decode bQ_answer 4 = .ok (.iload_n 1, 1) := by decide +kernel
theorem dQ_answer_5 : decode bQ_answer 5 = .ok (.invokevirtual 110, 3) := by decide +kernel
theorem dQ_answer_8 : decode bQ_answer 8 = .ok (.ireturn, 1) := by decide +kernel
theorem dQ_nearest_0 : decode bQ_nearest 0 = .ok (.aload_n 0, 1) := by decide +kernel
theorem dQ_nearest_1 : decode bQ_nearest 1 = .ok (.getfield 12, 3) := by decide +kernel
theorem dQ_nearest_4 : decode bQ_nearest 4 = .ok (.aload_n 0, 1) := by decide +kernel
theorem dQ_nearest_5 : decode bQ_nearest 5 = .ok (.getfield 48, 3) := by decide +kernel
theorem dQ_nearest_8 : decode bQ_nearest 8 = .ok (.invokevirtual 113, 3) := by decide +kernel
theorem dQ_nearest_11 : decode bQ_nearest 11 = .ok (.ireturn, 1) := by decide +kernel
theorem dQ_far_0 : decode bQ_far 0 = .ok (.aload_n 0, 1) := by decide +kernel
theorem dQ_far_1 : decode bQ_far 1 = .ok (.getfield 12, 3) := by decide +kernel
theorem dQ_far_4 : decode bQ_far 4 = .ok (.iload_n 1, 1) := by decide +kernel
theorem dQ_far_5 : decode bQ_far 5 = .ok (.iload_n 2, 1) := by decide +kernel
theorem dQ_far_6 : decode bQ_far 6 = .ok (.invokevirtual 116, 3) := by decide +kernel
theorem dQ_far_9 : decode bQ_far 9 = .ok (.ireturn, 1) := by decide +kernel
theorem dQ_ways_0 : decode bQ_ways 0 = .ok (.aload_n 0, 1) := by decide +kernel
theorem dQ_ways_1 : decode bQ_ways 1 = .ok (.getfield 12, 3) := by decide +kernel
theorem dQ_ways_4 : decode bQ_ways 4 = .ok (.iload_n 1, 1) := by decide +kernel
theorem dQ_ways_5 : decode bQ_ways 5 = .ok (.iload_n 2, 1) := by decide +kernel
theorem dQ_ways_6 : decode bQ_ways 6 = .ok (.iload_n 3, 1) := by decide +kernel
theorem dQ_ways_7 : decode bQ_ways 7 = .ok (.invokevirtual 119, 3) := by decide +kernel
theorem dQ_ways_10 : decode bQ_ways 10 = .ok (.ireturn, 1) := by decide +kernel
theorem dQ_work_0 : decode bQ_work 0 = .ok (.aload_n 0, 1) := by decide +kernel
theorem dQ_work_1 : decode bQ_work 1 = .ok (.getfield 44, 3) := by decide +kernel
theorem dQ_work_4 : decode bQ_work 4 = .ok (.ireturn, 1) := by decide +kernel
theorem dQ_firstUnknown_0 : decode bQ_firstUnknown 0 = .ok (.iconst 0, 1) := by decide +kernel
theorem dQ_firstUnknown_1 : decode bQ_firstUnknown 1 = .ok (.istore_n 2, 1) := by decide +kernel
theorem dQ_firstUnknown_2 : decode bQ_firstUnknown 2 = .ok (.iload_n 2, 1) := by decide +kernel
theorem dQ_firstUnknown_3 : decode bQ_firstUnknown 3 = .ok (.aload_n 1, 1) := by decide +kernel
theorem dQ_firstUnknown_4 : decode bQ_firstUnknown 4 = .ok (.invokevirtual 122, 3) := by decide +kernel
theorem dQ_firstUnknown_7 : decode bQ_firstUnknown 7 = .ok (.if_icmp .ge 36, 3) := by decide +kernel
theorem dQ_firstUnknown_10 : decode bQ_firstUnknown 10 = .ok (.aload_n 1, 1) := by decide +kernel
theorem dQ_firstUnknown_11 : decode bQ_firstUnknown 11 = .ok (.iload_n 2, 1) := by decide +kernel
theorem dQ_firstUnknown_12 : decode bQ_firstUnknown 12 = .ok (.invokevirtual 123, 3) := by decide +kernel
theorem dQ_firstUnknown_15 : decode bQ_firstUnknown 15 = .ok (.iconst 2, 1) := by decide +kernel
theorem dQ_firstUnknown_16 : decode bQ_firstUnknown 16 = .ok (.if_icmp .ne 21, 3) := by decide +kernel
theorem dQ_firstUnknown_19 : decode bQ_firstUnknown 19 = .ok (.aload_n 0, 1) := by decide +kernel
theorem dQ_firstUnknown_20 : decode bQ_firstUnknown 20 = .ok (.getfield 12, 3) := by decide +kernel
theorem dQ_firstUnknown_23 : decode bQ_firstUnknown 23 = .ok (.aload_n 1, 1) := by decide +kernel
theorem dQ_firstUnknown_24 : decode bQ_firstUnknown 24 = .ok (.iload_n 2, 1) := by decide +kernel
theorem dQ_firstUnknown_25 : decode bQ_firstUnknown 25 = .ok (.invokevirtual 86, 3) := by decide +kernel
theorem dQ_firstUnknown_28 : decode bQ_firstUnknown 28 = .ok (.invokevirtual 126, 3) := by decide +kernel
theorem dQ_firstUnknown_31 : decode bQ_firstUnknown 31 = .ok (.iconst (-1), 1) := by decide +kernel
theorem dQ_firstUnknown_32 : decode bQ_firstUnknown 32 = .ok (.if_icmp .ne 5, 3) := by decide +kernel
theorem dQ_firstUnknown_35 : decode bQ_firstUnknown 35 = .ok (.iload_n 2, 1) := by decide +kernel
theorem dQ_firstUnknown_36 : decode bQ_firstUnknown 36 = .ok (.ireturn, 1) := by decide +kernel
theorem dQ_firstUnknown_37 : decode bQ_firstUnknown 37 = .ok (.iinc 2 1, 3) := by decide +kernel
theorem dQ_firstUnknown_40 : decode bQ_firstUnknown 40 = .ok (.goto (-38), 3) := by decide +kernel
theorem dQ_firstUnknown_43 : decode bQ_firstUnknown 43 = .ok (.iconst (-1), 1) := by decide +kernel
theorem dQ_firstUnknown_44 : decode bQ_firstUnknown 44 = .ok (.ireturn, 1) := by decide +kernel
theorem dQ_isJoin_0 : decode bQ_isJoin 0 = .ok (.iload_n 0, 1) := by decide +kernel
theorem dQ_isJoin_1 : decode bQ_isJoin 1 = .ok (.bipush 43, 2) := by decide +kernel
theorem dQ_isJoin_3 : decode bQ_isJoin 3 = .ok (.if_icmp .eq 15, 3) := by decide +kernel
theorem dQ_isJoin_6 : decode bQ_isJoin 6 = .ok (.iload_n 0, 1) := by decide +kernel
theorem dQ_isJoin_7 : decode bQ_isJoin 7 = .ok (.bipush 45, 2) := by decide +kernel
theorem dQ_isJoin_9 : decode bQ_isJoin 9 = .ok (.if_icmp .eq 9, 3) := by decide +kernel
theorem dQ_isJoin_12 : decode bQ_isJoin 12 = .ok (.iload_n 0, 1) := by decide +kernel
theorem dQ_isJoin_13 : decode bQ_isJoin 13 = .ok (.bipush 38, 2) := by decide +kernel
theorem dQ_isJoin_15 : decode bQ_isJoin 15 = .ok (.if_icmp .ne 7, 3) := by decide +kernel
theorem dQ_isJoin_18 : decode bQ_isJoin 18 = .ok (.iconst 1, 1) := by decide +kernel
theorem dQ_isJoin_19 : decode bQ_isJoin 19 = .ok (.goto 4, 3) := by decide +kernel
theorem dQ_isJoin_22 : decode bQ_isJoin 22 = .ok (.iconst 0, 1) := by decide +kernel
theorem dQ_isJoin_23 : decode bQ_isJoin 23 = .ok (.ireturn, 1) := by decide +kernel
theorem dQ_isIn_0 : decode bQ_isIn 0 = .ok (.iload_n 1, 1) := by decide +kernel
theorem dQ_isIn_1 : decode bQ_isIn 1 = .ok (.ifCond .lt 21, 3) := by decide +kernel
theorem dQ_isIn_4 : decode bQ_isIn 4 = .ok (.iload_n 1, 1) := by decide +kernel
theorem dQ_isIn_5 : decode bQ_isIn 5 = .ok (.bipush 30, 2) := by decide +kernel
theorem dQ_isIn_7 : decode bQ_isIn 7 = .ok (.if_icmp .ge 15, 3) := by decide +kernel
theorem dQ_isIn_10 : decode bQ_isIn 10 = .ok (.iload_n 0, 1) := by decide +kernel
theorem dQ_isIn_11 : decode bQ_isIn 11 = .ok (.iload_n 1, 1) := by decide +kernel
theorem dQ_isIn_12 : decode bQ_isIn 12 = .ok (.iushr, 1) := by decide +kernel
theorem dQ_isIn_13 : decode bQ_isIn 13 = .ok (.iconst 1, 1) := by decide +kernel
theorem dQ_isIn_14 : decode bQ_isIn 14 = .ok (.iand, 1) := by decide +kernel
theorem dQ_isIn_15 : decode bQ_isIn 15 = .ok (.ifCond .eq 7, 3) := by decide +kernel
theorem dQ_isIn_18 : decode bQ_isIn 18 = .ok (.iconst 1, 1) := by decide +kernel
theorem dQ_isIn_19 : decode bQ_isIn 19 = .ok (.goto 4, 3) := by decide +kernel
theorem dQ_isIn_22 : decode bQ_isIn 22 = .ok (.iconst 0, 1) := by decide +kernel
theorem dQ_isIn_23 : decode bQ_isIn 23 = .ok (.ireturn, 1) := by decide +kernel
