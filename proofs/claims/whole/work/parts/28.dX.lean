theorem dX_init_0 : decode bX_init 0 = .ok (.aload_n 0, 1) := by decide +kernel
theorem dX_init_1 : decode bX_init 1 = .ok (.invokespecial 3, 3) := by decide +kernel
theorem dX_init_4 : decode bX_init 4 = .ok (.aload_n 0, 1) := by decide +kernel
theorem dX_init_5 : decode bX_init 5 = .ok (.bipush 80, 2) := by decide +kernel
theorem dX_init_7 : decode bX_init 7 = .ok (.newarray .char, 2) := by decide +kernel
theorem dX_init_9 : decode bX_init 9 = .ok (.putfield 9, 3) := by decide +kernel
theorem dX_init_12 : decode bX_init 12 = .ok (.aload_n 0, 1) := by decide +kernel
theorem dX_init_13 : decode bX_init 13 = .ok (.iconst 0, 1) := by decide +kernel
theorem dX_init_14 : decode bX_init 14 = .ok (.putfield 15, 3) := by decide +kernel
theorem dX_init_17 : decode bX_init 17 = .ok (.return_, 1) := by decide +kernel
theorem dX_append_0 : decode bX_append 0 = .ok (.iload_n 1, 1) := by decide +kernel
theorem dX_append_1 : decode bX_append 1 = .ok (.bipush 32, 2) := by decide +kernel
theorem dX_append_3 : decode bX_append 3 = .ok (.if_icmp .lt 21, 3) := by decide +kernel
theorem dX_append_6 : decode bX_append 6 = .ok (.iload_n 1, 1) := by decide +kernel
theorem dX_append_7 : decode bX_append 7 = .ok (.bipush 126, 2) := by decide +kernel
theorem dX_append_9 : decode bX_append 9 = .ok (.if_icmp .gt 15, 3) := by decide +kernel
theorem dX_append_12 : decode bX_append 12 = .ok (.aload_n 0, 1) := by decide +kernel
theorem dX_append_13 : decode bX_append 13 = .ok (.getfield 15, 3) := by decide +kernel
theorem dX_append_16 : decode bX_append 16 = .ok (.aload_n 0, 1) := by decide +kernel
theorem dX_append_17 : decode bX_append 17 = .ok (.getfield 9, 3) := by decide +kernel
theorem dX_append_20 : decode bX_append 20 = .ok (.arraylength, 1) := by decide +kernel
theorem dX_append_21 : decode bX_append 21 = .ok (.if_icmp .lt 5, 3) := by decide +kernel
theorem dX_append_24 : decode bX_append 24 = .ok (.iconst 0, 1) := by decide +kernel
theorem dX_append_25 : decode bX_append 25 = .ok (.ireturn, 1) := by decide +kernel
theorem dX_append_26 : decode bX_append 26 = .ok (.aload_n 0, 1) := by decide +kernel
theorem dX_append_27 : decode bX_append 27 = .ok (.getfield 9, 3) := by decide +kernel
theorem dX_append_30 : decode bX_append 30 = .ok (.aload_n 0, 1) := by decide +kernel
theorem dX_append_31 : decode bX_append 31 = .ok (.getfield 15, 3) := by decide +kernel
theorem dX_append_34 : decode bX_append 34 = .ok (.iload_n 1, 1) := by decide +kernel
theorem dX_append_35 : decode bX_append 35 = .ok (.castore, 1) := by decide +kernel
theorem dX_append_36 : decode bX_append 36 = .ok (.aload_n 0, 1) := by decide +kernel
theorem dX_append_37 : decode bX_append 37 = .ok (.dup, 1) := by decide +kernel
theorem dX_append_38 : decode bX_append 38 = .ok (.getfield 15, 3) := by decide +kernel
theorem dX_append_41 : decode bX_append 41 = .ok (.iconst 1, 1) := by decide +kernel
theorem dX_append_42 : decode bX_append 42 = .ok (.iadd, 1) := by decide +kernel
theorem dX_append_43 : decode bX_append 43 = .ok (.putfield 15, 3) := by decide +kernel
theorem dX_append_46 : decode bX_append 46 = .ok (.iconst 1, 1) := by decide +kernel
theorem dX_append_47 : decode bX_append 47 = .ok (.ireturn, 1) := by decide +kernel
theorem dX_clear_0 : decode bX_clear 0 = .ok (.aload_n 0, 1) := by decide +kernel
theorem dX_clear_1 : decode bX_clear 1 = .ok (.iconst 0, 1) := by decide +kernel
theorem dX_clear_2 : decode bX_clear 2 = .ok (.putfield 15, 3) := by decide +kernel
theorem dX_clear_5 : decode bX_clear 5 = .ok (.return_, 1) := by decide +kernel
theorem dX_split_0 : decode bX_split 0 = .ok (.aload_n 1, 1) := by decide +kernel
theorem dX_split_1 : decode bX_split 1 = .ok (.invokevirtual 19, 3) := by decide +kernel
theorem dX_split_4 : decode bX_split 4 = .ok (.iconst 0, 1) := by decide +kernel
theorem dX_split_5 : decode bX_split 5 = .ok (.istore_n 2, 1) := by decide +kernel
theorem dX_split_6 : decode bX_split 6 = .ok (.iload_n 2, 1) := by decide +kernel
theorem dX_split_7 : decode bX_split 7 = .ok (.aload_n 0, 1) := by decide +kernel
theorem dX_split_8 : decode bX_split 8 = .ok (.getfield 15, 3) := by decide +kernel
theorem dX_split_11 : decode bX_split 11 = .ok (.if_icmp .ge 107, 3) := by decide +kernel
theorem dX_split_14 : decode bX_split 14 = .ok (.aload_n 0, 1) := by decide +kernel
theorem dX_split_15 : decode bX_split 15 = .ok (.iload_n 2, 1) := by decide +kernel
theorem dX_split_16 : decode bX_split 16 = .ok (.invokevirtual 24, 3) := by decide +kernel
theorem dX_split_19 : decode bX_split 19 = .ok (.istore_n 3, 1) := by decide +kernel
theorem dX_split_20 : decode bX_split 20 = .ok (.iload_n 3, 1) := by decide +kernel
theorem dX_split_21 : decode bX_split 21 = .ok (.invokestatic 28, 3) := by decide +kernel
theorem dX_split_24 : decode bX_split 24 = .ok (.ifCond .eq 64, 3) := by decide +kernel
theorem dX_split_27 : decode bX_split 27 = .ok (.iload_n 2, 1) := by decide +kernel
theorem dX_split_28 : decode bX_split 28 = .ok (.istore 4, 2) := by decide +kernel
theorem dX_split_30 : decode bX_split 30 = .ok (.iload_n 2, 1) := by decide +kernel
theorem dX_split_31 : decode bX_split 31 = .ok (.iconst 1, 1) := by decide +kernel
theorem dX_split_32 : decode bX_split 32 = .ok (.iadd, 1) := by decide +kernel
theorem dX_split_33 : decode bX_split 33 = .ok (.aload_n 0, 1) := by decide +kernel
theorem dX_split_34 : decode bX_split 34 = .ok (.getfield 15, 3) := by decide +kernel
theorem dX_split_37 : decode bX_split 37 = .ok (.if_icmp .ge 22, 3) := by decide +kernel
theorem dX_split_40 : decode bX_split 40 = .ok (.aload_n 0, 1) := by decide +kernel
theorem dX_split_41 : decode bX_split 41 = .ok (.iload_n 2, 1) := by decide +kernel
theorem dX_split_42 : decode bX_split 42 = .ok (.iconst 1, 1) := by decide +kernel
theorem dX_split_43 : decode bX_split 43 = .ok (.iadd, 1) := by decide +kernel
theorem dX_split_44 : decode bX_split 44 = .ok (.invokevirtual 24, 3) := by decide +kernel
theorem dX_split_47 : decode bX_split 47 = .ok (.invokestatic 28, 3) := by decide +kernel
theorem dX_split_50 : decode bX_split 50 = .ok (.ifCond .eq 9, 3) := by decide +kernel
theorem dX_split_53 : decode bX_split 53 = .ok (.iinc 2 1, 3) := by decide +kernel
theorem dX_split_56 : decode bX_split 56 = .ok (.goto (-26), 3) := by decide +kernel
theorem dX_split_59 : decode bX_split 59 = .ok (.aload_n 0, 1) := by decide +kernel
theorem dX_split_60 : decode bX_split 60 = .ok (.iload 4, 2) := by decide +kernel
theorem dX_split_62 : decode bX_split 62 = .ok (.iload_n 2, 1) := by decide +kernel
theorem dX_split_63 : decode bX_split 63 = .ok (.invokevirtual 32, 3) := by decide +kernel
theorem dX_split_66 : decode bX_split 66 = .ok (.istore 5, 2) := by decide +kernel
theorem dX_split_68 : decode bX_split 68 = .ok (.aload_n 1, 1) := by decide +kernel
theorem dX_split_69 : decode bX_split 69 = .ok (.iload 5, 2) := by decide +kernel
theorem dX_split_71 : decode bX_split 71 = .ok (.aload_n 0, 1) := by decide +kernel
theorem dX_split_72 : decode bX_split 72 = .ok (.iload 5, 2) := by decide +kernel
theorem dX_split_74 : decode bX_split 74 = .ok (.iload 4, 2) := by decide +kernel
theorem dX_split_76 : decode bX_split 76 = .ok (.iload_n 2, 1) := by decide +kernel
theorem dX_split_77 : decode bX_split 77 = .ok (.invokevirtual 36, 3) := by decide +kernel
theorem dX_split_80 : decode bX_split 80 = .ok (.iload 4, 2) := by decide +kernel
theorem dX_split_82 : decode bX_split 82 = .ok (.invokevirtual 40, 3) := by decide +kernel
theorem dX_split_85 : decode bX_split 85 = .ok (.goto 27, 3) := by decide +kernel
theorem dX_split_88 : decode bX_split 88 = .ok (.iload_n 3, 1) := by decide +kernel
theorem dX_split_89 : decode bX_split 89 = .ok (.bipush 32, 2) := by decide +kernel
theorem dX_split_91 : decode bX_split 91 = .ok (.if_icmp .eq 21, 3) := by decide +kernel
theorem dX_split_94 : decode bX_split 94 = .ok (.aload_n 1, 1) := by decide +kernel
theorem dX_split_95 : decode bX_split 95 = .ok (.iload_n 3, 1) := by decide +kernel
theorem dX_split_96 : decode bX_split 96 = .ok (.invokestatic 44, 3) := by decide +kernel
theorem dX_split_99 : decode bX_split 99 = .ok (.ifCond .eq 7, 3) := by decide +kernel
theorem dX_split_102 : decode bX_split 102 = .ok (.iload_n 3, 1) := by decide +kernel
theorem dX_split_103 : decode bX_split 103 = .ok (.goto 4, 3) := by decide +kernel
theorem dX_split_106 : decode bX_split 106 = .ok (.iconst 1, 1) := by decide +kernel
theorem dX_split_107 : decode bX_split 107 = .ok (.iconst 0, 1) := by decide +kernel
theorem dX_split_108 : decode bX_split 108 = .ok (.iload_n 2, 1) := by decide +kernel
theorem dX_split_109 : decode bX_split 109 = .ok (.invokevirtual 40, 3) := by decide +kernel
theorem dX_split_112 : decode bX_split 112 = .ok (.iinc 2 1, 3) := by decide +kernel
theorem dX_split_115 : decode bX_split 115 = .ok (.goto (-109), 3) := by decide +kernel
theorem dX_split_118 : decode bX_split 118 = .ok (.aload_n 1, 1) := by decide +kernel
theorem dX_split_119 : decode bX_split 119 = .ok (.iconst 0, 1) := by decide +kernel
theorem dX_split_120 : decode bX_split 120 = .ok (.iconst 0, 1) := by decide +kernel
theorem dX_split_121 : decode bX_split 121 = .ok (.aload_n 0, 1) := by decide +kernel
theorem dX_split_122 : decode bX_split 122 = .ok (.getfield 15, 3) := by decide +kernel
theorem dX_split_125 : decode bX_split 125 = .ok (.invokevirtual 40, 3) := by decide +kernel
theorem dX_split_128 : decode bX_split 128 = .ok (.return_, 1) := by decide +kernel
theorem dX_charAt_0 : decode bX_charAt 0 = .ok (.iload_n 1, 1) := by decide +kernel
theorem dX_charAt_1 : decode bX_charAt 1 = .ok (.ifCond .lt 20, 3) := by decide +kernel
theorem dX_charAt_4 : decode bX_charAt 4 = .ok (.iload_n 1, 1) := by decide +kernel
theorem dX_charAt_5 : decode bX_charAt 5 = .ok (.aload_n 0, 1) := by decide +kernel
theorem dX_charAt_6 : decode bX_charAt 6 = .ok (.getfield 15, 3) := by decide +kernel
theorem dX_charAt_9 : decode bX_charAt 9 = .ok (.if_icmp .ge 12, 3) := by decide +kernel
theorem dX_charAt_12 : decode bX_charAt 12 = .ok (.aload_n 0, 1) := by decide +kernel
theorem dX_charAt_13 : decode bX_charAt 13 = .ok (.getfield 9, 3) := by decide +kernel
theorem dX_charAt_16 : decode bX_charAt 16 = .ok (.iload_n 1, 1) := by decide +kernel
theorem dX_charAt_17 : decode bX_charAt 17 = .ok (.caload, 1) := by decide +kernel
theorem dX_charAt_18 : decode bX_charAt 18 = .ok (.goto 5, 3) := by decide +kernel
theorem dX_charAt_21 : decode bX_charAt 21 = .ok (.bipush 32, 2) := by decide +kernel
theorem dX_charAt_23 : decode bX_charAt 23 = .ok (.ireturn, 1) := by decide +kernel
theorem dX_rowKind_0 : decode bX_rowKind 0 = .ok (.iload_n 2, 1) := by decide +kernel
theorem dX_rowKind_1 : decode bX_rowKind 1 = .ok (.iload_n 1, 1) := by decide +kernel
theorem dX_rowKind_2 : decode bX_rowKind 2 = .ok (.isub, 1) := by decide +kernel
theorem dX_rowKind_3 : decode bX_rowKind 3 = .ok (.iconst 1, 1) := by decide +kernel
theorem dX_rowKind_4 : decode bX_rowKind 4 = .ok (.iadd, 1) := by decide +kernel
theorem dX_rowKind_5 : decode bX_rowKind 5 = .ok (.istore_n 3, 1) := by decide +kernel
theorem dX_rowKind_6 : decode bX_rowKind 6 = .ok (.aload_n 0, 1) := by decide +kernel
theorem dX_rowKind_7 : decode bX_rowKind 7 = .ok (.iload_n 1, 1) := by decide +kernel
theorem dX_rowKind_8 : decode bX_rowKind 8 = .ok (.invokevirtual 24, 3) := by decide +kernel
theorem dX_rowKind_11 : decode bX_rowKind 11 = .ok (.istore 4, 2) := by decide +kernel
theorem dX_rowKind_13 : decode bX_rowKind 13 = .ok (.iload_n 3, 1) := by decide +kernel
theorem dX_rowKind_14 : decode bX_rowKind 14 = .ok (.iconst 1, 1) := by decide +kernel
theorem dX_rowKind_15 : decode bX_rowKind 15 = .ok (.if_icmp .ne 13, 3) := by decide +kernel
theorem dX_rowKind_18 : decode bX_rowKind 18 = .ok (.iload 4, 2) := by decide +kernel
theorem dX_rowKind_20 : decode bX_rowKind 20 = .ok (.invokestatic 47, 3) := by decide +kernel
theorem dX_rowKind_23 : decode bX_rowKind 23 = .ok (.ifCond .eq 5, 3) := by decide +kernel
theorem dX_rowKind_26 : decode bX_rowKind 26 = .ok (.iconst 3, 1) := by decide +kernel
theorem dX_rowKind_27 : decode bX_rowKind 27 = .ok (.ireturn, 1) := by decide +kernel
theorem dX_rowKind_28 : decode bX_rowKind 28 = .ok (.iload_n 3, 1) := by decide +kernel
theorem dX_rowKind_29 : decode bX_rowKind 29 = .ok (.iconst 2, 1) := by decide +kernel
theorem dX_rowKind_30 : decode bX_rowKind 30 = .ok (.if_icmp .gt 24, 3) := by decide +kernel
theorem dX_rowKind_33 : decode bX_rowKind 33 = .ok (.iload 4, 2) := by decide +kernel
theorem dX_rowKind_35 : decode bX_rowKind 35 = .ok (.invokestatic 50, 3) := by decide +kernel
theorem dX_rowKind_38 : decode bX_rowKind 38 = .ok (.ifCond .eq 16, 3) := by decide +kernel
theorem dX_rowKind_41 : decode bX_rowKind 41 = .ok (.aload_n 0, 1) := by decide +kernel
theorem dX_rowKind_42 : decode bX_rowKind 42 = .ok (.iload_n 2, 1) := by decide +kernel
theorem dX_rowKind_43 : decode bX_rowKind 43 = .ok (.invokevirtual 24, 3) := by decide +kernel
theorem dX_rowKind_46 : decode bX_rowKind 46 = .ok (.invokestatic 50, 3) := by decide +kernel
theorem dX_rowKind_49 : decode bX_rowKind 49 = .ok (.ifCond .eq 5, 3) := by decide +kernel
theorem dX_rowKind_52 : decode bX_rowKind 52 = .ok (.iconst 4, 1) := by decide +kernel
theorem dX_rowKind_53 : decode bX_rowKind 53 = .ok (.ireturn, 1) := by decide +kernel
theorem dX_rowKind_54 : decode bX_rowKind 54 = .ok (.iload_n 3, 1) := by decide +kernel
theorem dX_rowKind_55 : decode bX_rowKind 55 = .ok (.iconst 2, 1) := by decide +kernel
theorem dX_rowKind_56 : decode bX_rowKind 56 = .ok (.if_icmp .ne 30, 3) := by decide +kernel
theorem dX_rowKind_59 : decode bX_rowKind 59 = .ok (.iload 4, 2) := by decide +kernel
theorem dX_rowKind_61 : decode bX_rowKind 61 = .ok (.bipush 97, 2) := by decide +kernel
theorem dX_rowKind_63 : decode bX_rowKind 63 = .ok (.if_icmp .lt 23, 3) := by decide +kernel
theorem dX_rowKind_66 : decode bX_rowKind 66 = .ok (.iload 4, 2) := by decide +kernel
theorem dX_rowKind_68 : decode bX_rowKind 68 = .ok (.bipush 103, 2) := by decide +kernel
theorem dX_rowKind_70 : decode bX_rowKind 70 = .ok (.if_icmp .ge 16, 3) := by decide +kernel
theorem dX_rowKind_73 : decode bX_rowKind 73 = .ok (.aload_n 0, 1) := by decide +kernel
theorem dX_rowKind_74 : decode bX_rowKind 74 = .ok (.iload_n 2, 1) := by decide +kernel
theorem dX_rowKind_75 : decode bX_rowKind 75 = .ok (.invokevirtual 24, 3) := by decide +kernel
theorem dX_rowKind_78 : decode bX_rowKind 78 = .ok (.invokestatic 50, 3) := by decide +kernel
theorem dX_rowKind_81 : decode bX_rowKind 81 = .ok (.ifCond .eq 5, 3) := by decide +kernel
theorem dX_rowKind_84 : decode bX_rowKind 84 = .ok (.iconst 2, 1) := by decide +kernel
theorem dX_rowKind_85 : decode bX_rowKind 85 = .ok (.ireturn, 1) := by decide +kernel
theorem dX_rowKind_86 : decode bX_rowKind 86 = .ok (.aload_n 0, 1) := by decide +kernel
theorem dX_rowKind_87 : decode bX_rowKind 87 = .ok (.iload_n 1, 1) := by decide +kernel
theorem dX_rowKind_88 : decode bX_rowKind 88 = .ok (.iload_n 3, 1) := by decide +kernel
theorem dX_rowKind_89 : decode bX_rowKind 89 = .ok (.invokevirtual 53, 3) := by decide +kernel
theorem dX_rowKind_92 : decode bX_rowKind 92 = .ok (.ireturn, 1) := by decide +kernel
theorem dX_rowValue_0 : decode bX_rowValue 0 = .ok (.aload_n 0, 1) := by decide +kernel
theorem dX_rowValue_1 : decode bX_rowValue 1 = .ok (.iload_n 2, 1) := by decide +kernel
theorem dX_rowValue_2 : decode bX_rowValue 2 = .ok (.invokevirtual 24, 3) := by decide +kernel
theorem dX_rowValue_5 : decode bX_rowValue 5 = .ok (.istore 4, 2) := by decide +kernel
theorem dX_rowValue_7 : decode bX_rowValue 7 = .ok (.aload_n 0, 1) := by decide +kernel
theorem dX_rowValue_8 : decode bX_rowValue 8 = .ok (.iload_n 3, 1) := by decide +kernel
theorem dX_rowValue_9 : decode bX_rowValue 9 = .ok (.invokevirtual 24, 3) := by decide +kernel
theorem dX_rowValue_12 : decode bX_rowValue 12 = .ok (.istore 5, 2) := by decide +kernel
theorem dX_rowValue_14 : decode bX_rowValue 14 = .ok (.iload_n 1, 1) := by decide +kernel
theorem dX_rowValue_15 : decode bX_rowValue 15 = .ok (.tableswitch 74 2 4 #[31, 25, 46], 25) := by decide +kernel
theorem dX_rowValue_40 : decode bX_rowValue 40 = .ok (.iload 4, 2) := by decide +kernel
theorem dX_rowValue_42 : decode bX_rowValue 42 = .ok (.bipush 65, 2) := by decide +kernel
theorem dX_rowValue_44 : decode bX_rowValue 44 = .ok (.isub, 1) := by decide +kernel
theorem dX_rowValue_45 : decode bX_rowValue 45 = .ok (.ireturn, 1) := by decide +kernel
theorem dX_rowValue_46 : decode bX_rowValue 46 = .ok (.iload 4, 2) := by decide +kernel
theorem dX_rowValue_48 : decode bX_rowValue 48 = .ok (.bipush 97, 2) := by decide +kernel
theorem dX_rowValue_50 : decode bX_rowValue 50 = .ok (.isub, 1) := by decide +kernel
theorem dX_rowValue_51 : decode bX_rowValue 51 = .ok (.bipush 10, 2) := by decide +kernel
theorem dX_rowValue_53 : decode bX_rowValue 53 = .ok (.imul, 1) := by decide +kernel
theorem dX_rowValue_54 : decode bX_rowValue 54 = .ok (.iload 5, 2) := by decide +kernel
theorem dX_rowValue_56 : decode bX_rowValue 56 = .ok (.iadd, 1) := by decide +kernel
theorem dX_rowValue_57 : decode bX_rowValue 57 = .ok (.bipush 48, 2) := by decide +kernel
theorem dX_rowValue_59 : decode bX_rowValue 59 = .ok (.isub, 1) := by decide +kernel
theorem dX_rowValue_60 : decode bX_rowValue 60 = .ok (.ireturn, 1) := by decide +kernel
theorem dX_rowValue_61 : decode bX_rowValue 61 = .ok (.iload_n 2, 1) := by decide +kernel
theorem dX_rowValue_62 : decode bX_rowValue 62 = .ok (.iload_n 3, 1) := by decide +kernel
theorem dX_rowValue_63 : decode bX_rowValue 63 = .ok (.if_icmp .ne 11, 3) := by decide +kernel
theorem dX_rowValue_66 : decode bX_rowValue 66 = .ok (.iload 5, 2) := by decide +kernel
theorem dX_rowValue_68 : decode bX_rowValue 68 = .ok (.bipush 48, 2) := by decide +kernel
theorem dX_rowValue_70 : decode bX_rowValue 70 = .ok (.isub, 1) := by decide +kernel
theorem dX_rowValue_71 : decode bX_rowValue 71 = .ok (.goto 17, 3) := by decide +kernel
theorem dX_rowValue_74 : decode bX_rowValue 74 = .ok (.iload 4, 2) := by decide +kernel
theorem dX_rowValue_76 : decode bX_rowValue 76 = .ok (.bipush 48, 2) := by decide +kernel
theorem dX_rowValue_78 : decode bX_rowValue 78 = .ok (.isub, 1) := by decide +kernel
theorem dX_rowValue_79 : decode bX_rowValue 79 = .ok (.bipush 10, 2) := by decide +kernel
theorem dX_rowValue_81 : decode bX_rowValue 81 = .ok (.imul, 1) := by decide +kernel
theorem dX_rowValue_82 : decode bX_rowValue 82 = .ok (.iload 5, 2) := by decide +kernel
theorem dX_rowValue_84 : decode bX_rowValue 84 = .ok (.iadd, 1) := by decide +kernel
theorem dX_rowValue_85 : decode bX_rowValue 85 = .ok (.bipush 48, 2) := by decide +kernel
theorem dX_rowValue_87 : decode bX_rowValue 87 = .ok (.isub, 1) := by decide +kernel
theorem dX_rowValue_88 : decode bX_rowValue 88 = .ok (.ireturn, 1) := by decide +kernel
theorem dX_rowValue_89 : decode bX_rowValue 89 = .ok (.iconst 0, 1) := by decide +kernel
theorem dX_rowValue_90 : decode bX_rowValue 90 = .ok (.ireturn, 1) := by decide +kernel
theorem dX_wordKind_0 : decode bX_wordKind 0 = .ok (.aload_n 0, 1) := by decide +kernel
theorem dX_wordKind_1 : decode bX_wordKind 1 = .ok (.ldc 56, 2) := by decide +kernel
theorem dX_wordKind_3 : decode bX_wordKind 3 = .ok (.iload_n 1, 1) := by decide +kernel
theorem dX_wordKind_4 : decode bX_wordKind 4 = .ok (.iload_n 2, 1) := by decide +kernel
theorem dX_wordKind_5 : decode bX_wordKind 5 = .ok (.invokevirtual 58, 3) := by decide +kernel
theorem dX_wordKind_8 : decode bX_wordKind 8 = .ok (.ifCond .eq 5, 3) := by decide +kernel
theorem dX_wordKind_11 : decode bX_wordKind 11 = .ok (.iconst 5, 1) := by decide +kernel
theorem dX_wordKind_12 : decode bX_wordKind 12 = .ok (.ireturn, 1) := by decide +kernel
theorem dX_wordKind_13 : decode bX_wordKind 13 = .ok (.aload_n 0, 1) := by decide +kernel
theorem dX_wordKind_14 : decode bX_wordKind 14 = .ok (.ldc 62, 2) := by decide +kernel
theorem dX_wordKind_16 : decode bX_wordKind 16 = .ok (.iload_n 1, 1) := by decide +kernel
theorem dX_wordKind_17 : decode bX_wordKind 17 = .ok (.iload_n 2, 1) := by decide +kernel
theorem dX_wordKind_18 : decode bX_wordKind 18 = .ok (.invokevirtual 58, 3) := by decide +kernel
theorem dX_wordKind_21 : decode bX_wordKind 21 = .ok (.ifCond .eq 6, 3) := by decide +kernel
theorem dX_wordKind_24 : decode bX_wordKind 24 = .ok (.bipush 6, 2) := by decide +kernel
theorem dX_wordKind_26 : decode bX_wordKind 26 = .ok (.ireturn, 1) := by decide +kernel
theorem dX_wordKind_27 : decode bX_wordKind 27 = .ok (.aload_n 0, 1) := by decide +kernel
theorem dX_wordKind_28 : decode bX_wordKind 28 = .ok (.ldc 64, 2) := by decide +kernel
theorem dX_wordKind_30 : decode bX_wordKind 30 = .ok (.iload_n 1, 1) := by decide +kernel
theorem dX_wordKind_31 : decode bX_wordKind 31 = .ok (.iload_n 2, 1) := by decide +kernel
theorem dX_wordKind_32 : decode bX_wordKind 32 = .ok (.invokevirtual 58, 3) := by decide +kernel
theorem dX_wordKind_35 : decode bX_wordKind 35 = .ok (.ifCond .eq 6, 3) := by decide +kernel
theorem dX_wordKind_38 : decode bX_wordKind 38 = .ok (.bipush 7, 2) := by decide +kernel
theorem dX_wordKind_40 : decode bX_wordKind 40 = .ok (.ireturn, 1) := by decide +kernel
theorem dX_wordKind_41 : decode bX_wordKind 41 = .ok (.aload_n 0, 1) := by decide +kernel
theorem dX_wordKind_42 : decode bX_wordKind 42 = .ok (.ldc 66, 2) := by decide +kernel
theorem dX_wordKind_44 : decode bX_wordKind 44 = .ok (.iload_n 1, 1) := by decide +kernel
theorem dX_wordKind_45 : decode bX_wordKind 45 = .ok (.iload_n 2, 1) := by decide +kernel
theorem dX_wordKind_46 : decode bX_wordKind 46 = .ok (.invokevirtual 58, 3) := by decide +kernel
theorem dX_wordKind_49 : decode bX_wordKind 49 = .ok (.ifCond .eq 6, 3) := by decide +kernel
theorem dX_wordKind_52 : decode bX_wordKind 52 = .ok (.bipush 8, 2) := by decide +kernel
theorem dX_wordKind_54 : decode bX_wordKind 54 = .ok (.ireturn, 1) := by decide +kernel
theorem dX_wordKind_55 : decode bX_wordKind 55 = .ok (.aload_n 0, 1) := by decide +kernel
theorem dX_wordKind_56 : decode bX_wordKind 56 = .ok (.ldc 68, 2) := by decide +kernel
theorem dX_wordKind_58 : decode bX_wordKind 58 = .ok (.iload_n 1, 1) := by decide +kernel
theorem dX_wordKind_59 : decode bX_wordKind 59 = .ok (.iload_n 2, 1) := by decide +kernel
theorem dX_wordKind_60 : decode bX_wordKind 60 = .ok (.invokevirtual 58, 3) := by decide +kernel
theorem dX_wordKind_63 : decode bX_wordKind 63 = .ok (.ifCond .eq 6, 3) := by decide +kernel
theorem dX_wordKind_66 : decode bX_wordKind 66 = .ok (.bipush 9, 2) := by decide +kernel
theorem dX_wordKind_68 : decode bX_wordKind 68 = .ok (.ireturn, 1) := by decide +kernel
theorem dX_wordKind_69 : decode bX_wordKind 69 = .ok (.aload_n 0, 1) := by decide +kernel
theorem dX_wordKind_70 : decode bX_wordKind 70 = .ok (.ldc 70, 2) := by decide +kernel
theorem dX_wordKind_72 : decode bX_wordKind 72 = .ok (.iload_n 1, 1) := by decide +kernel
theorem dX_wordKind_73 : decode bX_wordKind 73 = .ok (.iload_n 2, 1) := by decide +kernel
theorem dX_wordKind_74 : decode bX_wordKind 74 = .ok (.invokevirtual 58, 3) := by decide +kernel
theorem dX_wordKind_77 : decode bX_wordKind 77 = .ok (.ifCond .eq 6, 3) := by decide +kernel
theorem dX_wordKind_80 : decode bX_wordKind 80 = .ok (.bipush 10, 2) := by decide +kernel
theorem dX_wordKind_82 : decode bX_wordKind 82 = .ok (.ireturn, 1) := by decide +kernel
theorem dX_wordKind_83 : decode bX_wordKind 83 = .ok (.aload_n 0, 1) := by decide +kernel
theorem dX_wordKind_84 : decode bX_wordKind 84 = .ok (.ldc 72, 2) := by decide +kernel
theorem dX_wordKind_86 : decode bX_wordKind 86 = .ok (.iload_n 1, 1) := by decide +kernel
theorem dX_wordKind_87 : decode bX_wordKind 87 = .ok (.iload_n 2, 1) := by decide +kernel
theorem dX_wordKind_88 : decode bX_wordKind 88 = .ok (.invokevirtual 58, 3) := by decide +kernel
theorem dX_wordKind_91 : decode bX_wordKind 91 = .ok (.ifCond .eq 6, 3) := by decide +kernel
theorem dX_wordKind_94 : decode bX_wordKind 94 = .ok (.bipush 11, 2) := by decide +kernel
theorem dX_wordKind_96 : decode bX_wordKind 96 = .ok (.ireturn, 1) := by decide +kernel
theorem dX_wordKind_97 : decode bX_wordKind 97 = .ok (.aload_n 0, 1) := by decide +kernel
theorem dX_wordKind_98 : decode bX_wordKind 98 = .ok (.ldc 74, 2) := by decide +kernel
theorem dX_wordKind_100 : decode bX_wordKind 100 = .ok (.iload_n 1, 1) := by decide +kernel
theorem dX_wordKind_101 : decode bX_wordKind 101 = .ok (.iload_n 2, 1) := by decide +kernel
theorem dX_wordKind_102 : decode bX_wordKind 102 = .ok (.invokevirtual 58, 3) := by decide +kernel
theorem dX_wordKind_105 : decode bX_wordKind 105 = .ok (.ifCond .eq 6, 3) := by decide +kernel
theorem dX_wordKind_108 : decode bX_wordKind 108 = .ok (.bipush 12, 2) := by decide +kernel
theorem dX_wordKind_110 : decode bX_wordKind 110 = .ok (.ireturn, 1) := by decide +kernel
theorem dX_wordKind_111 : decode bX_wordKind 111 = .ok (.aload_n 0, 1) := by decide +kernel
theorem dX_wordKind_112 : decode bX_wordKind 112 = .ok (.ldc 76, 2) := by decide +kernel
theorem dX_wordKind_114 : decode bX_wordKind 114 = .ok (.iload_n 1, 1) := by decide +kernel
theorem dX_wordKind_115 : decode bX_wordKind 115 = .ok (.iload_n 2, 1) := by decide +kernel
theorem dX_wordKind_116 : decode bX_wordKind 116 = .ok (.invokevirtual 58, 3) := by decide +kernel
theorem dX_wordKind_119 : decode bX_wordKind 119 = .ok (.ifCond .eq 8, 3) := by decide +kernel
theorem dX_wordKind_122 : decode bX_wordKind 122 = .ok (.bipush 13, 2) := by decide +kernel
theorem dX_wordKind_124 : decode bX_wordKind 124 = .ok (.goto 4, 3) := by decide +kernel
theorem dX_wordKind_127 : decode bX_wordKind 127 = .ok (.iconst 1, 1) := by decide +kernel
theorem dX_wordKind_128 : decode bX_wordKind 128 = .ok (.ireturn, 1) := by decide +kernel
theorem dX_spells_0 : decode bX_spells 0 = .ok (.aload_n 1, 1) := by decide +kernel
theorem dX_spells_1 : decode bX_spells 1 = .ok (.invokevirtual 78, 3) := by decide +kernel
theorem dX_spells_4 : decode bX_spells 4 = .ok (.iload_n 3, 1) := by decide +kernel
theorem dX_spells_5 : decode bX_spells 5 = .ok (.if_icmp .eq 5, 3) := by decide +kernel
theorem dX_spells_8 : decode bX_spells 8 = .ok (.iconst 0, 1) := by decide +kernel
theorem dX_spells_9 : decode bX_spells 9 = .ok (.ireturn, 1) := by decide +kernel
theorem dX_spells_10 : decode bX_spells 10 = .ok (.iconst 0, 1) := by decide +kernel
theorem dX_spells_11 : decode bX_spells 11 = .ok (.istore 4, 2) := by decide +kernel
theorem dX_spells_13 : decode bX_spells 13 = .ok (.iload 4, 2) := by decide +kernel
theorem dX_spells_15 : decode bX_spells 15 = .ok (.aload_n 1, 1) := by decide +kernel
theorem dX_spells_16 : decode bX_spells 16 = .ok (.invokevirtual 78, 3) := by decide +kernel
theorem dX_spells_19 : decode bX_spells 19 = .ok (.if_icmp .ge 28, 3) := by decide +kernel
theorem dX_spells_22 : decode bX_spells 22 = .ok (.aload_n 0, 1) := by decide +kernel
theorem dX_spells_23 : decode bX_spells 23 = .ok (.iload_n 2, 1) := by decide +kernel
theorem dX_spells_24 : decode bX_spells 24 = .ok (.iload 4, 2) := by decide +kernel
theorem dX_spells_26 : decode bX_spells 26 = .ok (.iadd, 1) := by decide +kernel
theorem dX_spells_27 : decode bX_spells 27 = .ok (.invokevirtual 24, 3) := by decide +kernel
theorem dX_spells_30 : decode bX_spells 30 = .ok (.aload_n 1, 1) := by decide +kernel
theorem dX_spells_31 : decode bX_spells 31 = .ok (.iload 4, 2) := by decide +kernel
theorem dX_spells_33 : decode bX_spells 33 = .ok (.invokevirtual 83, 3) := by decide +kernel
theorem dX_spells_36 : decode bX_spells 36 = .ok (.if_icmp .eq 5, 3) := by decide +kernel
theorem dX_spells_39 : decode bX_spells 39 = .ok (.iconst 0, 1) := by decide +kernel
theorem dX_spells_40 : decode bX_spells 40 = .ok (.ireturn, 1) := by decide +kernel
theorem dX_spells_41 : decode bX_spells 41 = .ok (.iinc 4 1, 3) := by decide +kernel
theorem dX_spells_44 : decode bX_spells 44 = .ok (.goto (-31), 3) := by decide +kernel
theorem dX_spells_47 : decode bX_spells 47 = .ok (.iconst 1, 1) := by decide +kernel
theorem dX_spells_48 : decode bX_spells 48 = .ok (.ireturn, 1) := by decide +kernel
theorem dX_isRowChar_0 : decode bX_isRowChar 0 = .ok (.iload_n 0, 1) := by decide +kernel
theorem dX_isRowChar_1 : decode bX_isRowChar 1 = .ok (.invokestatic 50, 3) := by decide +kernel
theorem dX_isRowChar_4 : decode bX_isRowChar 4 = .ok (.ifCond .ne 22, 3) := by decide +kernel
theorem dX_isRowChar_7 : decode bX_isRowChar 7 = .ok (.iload_n 0, 1) := by decide +kernel
theorem dX_isRowChar_8 : decode bX_isRowChar 8 = .ok (.invokestatic 47, 3) := by decide +kernel
theorem dX_isRowChar_11 : decode bX_isRowChar 11 = .ok (.ifCond .ne 15, 3) := by decide +kernel
theorem dX_isRowChar_14 : decode bX_isRowChar 14 = .ok (.iload_n 0, 1) := by decide +kernel
theorem dX_isRowChar_15 : decode bX_isRowChar 15 = .ok (.bipush 97, 2) := by decide +kernel
theorem dX_isRowChar_17 : decode bX_isRowChar 17 = .ok (.if_icmp .lt 13, 3) := by decide +kernel
theorem dX_isRowChar_20 : decode bX_isRowChar 20 = .ok (.iload_n 0, 1) := by decide +kernel
theorem dX_isRowChar_21 : decode bX_isRowChar 21 = .ok (.bipush 122, 2) := by decide +kernel
theorem dX_isRowChar_23 : decode bX_isRowChar 23 = .ok (.if_icmp .gt 7, 3) := by decide +kernel
theorem dX_isRowChar_26 : decode bX_isRowChar 26 = .ok (.iconst 1, 1) := by decide +kernel
theorem dX_isRowChar_27 : decode bX_isRowChar 27 = .ok (.goto 4, 3) := by decide +kernel
theorem dX_isRowChar_30 : decode bX_isRowChar 30 = .ok (.iconst 0, 1) := by decide +kernel
theorem dX_isRowChar_31 : decode bX_isRowChar 31 = .ok (.ireturn, 1) := by decide +kernel
theorem dX_isDigit_0 : decode bX_isDigit 0 = .ok (.iload_n 0, 1) := by decide +kernel
theorem dX_isDigit_1 : decode bX_isDigit 1 = .ok (.bipush 48, 2) := by decide +kernel
theorem dX_isDigit_3 : decode bX_isDigit 3 = .ok (.if_icmp .lt 13, 3) := by decide +kernel
theorem dX_isDigit_6 : decode bX_isDigit 6 = .ok (.iload_n 0, 1) := by decide +kernel
theorem dX_isDigit_7 : decode bX_isDigit 7 = .ok (.bipush 57, 2) := by decide +kernel
theorem dX_isDigit_9 : decode bX_isDigit 9 = .ok (.if_icmp .gt 7, 3) := by decide +kernel
theorem dX_isDigit_12 : decode bX_isDigit 12 = .ok (.iconst 1, 1) := by decide +kernel
theorem dX_isDigit_13 : decode bX_isDigit 13 = .ok (.goto 4, 3) := by decide +kernel
theorem dX_isDigit_16 : decode bX_isDigit 16 = .ok (.iconst 0, 1) := by decide +kernel
theorem dX_isDigit_17 : decode bX_isDigit 17 = .ok (.ireturn, 1) := by decide +kernel
theorem dX_isCapital_0 : decode bX_isCapital 0 = .ok (.iload_n 0, 1) := by decide +kernel
theorem dX_isCapital_1 : decode bX_isCapital 1 = .ok (.bipush 65, 2) := by decide +kernel
theorem dX_isCapital_3 : decode bX_isCapital 3 = .ok (.if_icmp .lt 13, 3) := by decide +kernel
theorem dX_isCapital_6 : decode bX_isCapital 6 = .ok (.iload_n 0, 1) := by decide +kernel
theorem dX_isCapital_7 : decode bX_isCapital 7 = .ok (.bipush 90, 2) := by decide +kernel
theorem dX_isCapital_9 : decode bX_isCapital 9 = .ok (.if_icmp .gt 7, 3) := by decide +kernel
theorem dX_isCapital_12 : decode bX_isCapital 12 = .ok (.iconst 1, 1) := by decide +kernel
theorem dX_isCapital_13 : decode bX_isCapital 13 = .ok (.goto 4, 3) := by decide +kernel
theorem dX_isCapital_16 : decode bX_isCapital 16 = .ok (.iconst 0, 1) := by decide +kernel
theorem dX_isCapital_17 : decode bX_isCapital 17 = .ok (.ireturn, 1) := by decide +kernel
theorem dX_isSign_0 : decode bX_isSign 0 = .ok (.iload_n 0, 1) := by decide +kernel
theorem dX_isSign_1 : decode bX_isSign 1 = .ok (.bipush 40, 2) := by decide +kernel
theorem dX_isSign_3 : decode bX_isSign 3 = .ok (.if_icmp .eq 28, 3) := by decide +kernel
theorem dX_isSign_6 : decode bX_isSign 6 = .ok (.iload_n 0, 1) := by decide +kernel
theorem dX_isSign_7 : decode bX_isSign 7 = .ok (.bipush 41, 2) := by decide +kernel
theorem dX_isSign_9 : decode bX_isSign 9 = .ok (.if_icmp .eq 22, 3) := by decide +kernel
theorem dX_isSign_12 : decode bX_isSign 12 = .ok (.iload_n 0, 1) := by decide +kernel
theorem dX_isSign_13 : decode bX_isSign 13 = .ok (.bipush 44, 2) := by decide +kernel
theorem dX_isSign_15 : decode bX_isSign 15 = .ok (.if_icmp .eq 16, 3) := by decide +kernel
theorem dX_isSign_18 : decode bX_isSign 18 = .ok (.iload_n 0, 1) := by decide +kernel
theorem dX_isSign_19 : decode bX_isSign 19 = .ok (.bipush 61, 2) := by decide +kernel
theorem dX_isSign_21 : decode bX_isSign 21 = .ok (.if_icmp .eq 10, 3) := by decide +kernel
theorem dX_isSign_24 : decode bX_isSign 24 = .ok (.iload_n 0, 1) := by decide +kernel
theorem dX_isSign_25 : decode bX_isSign 25 = .ok (.invokestatic 84, 3) := by decide +kernel
theorem dX_isSign_28 : decode bX_isSign 28 = .ok (.ifCond .eq 7, 3) := by decide +kernel
theorem dX_isSign_31 : decode bX_isSign 31 = .ok (.iconst 1, 1) := by decide +kernel
theorem dX_isSign_32 : decode bX_isSign 32 = .ok (.goto 4, 3) := by decide +kernel
theorem dX_isSign_35 : decode bX_isSign 35 = .ok (.iconst 0, 1) := by decide +kernel
theorem dX_isSign_36 : decode bX_isSign 36 = .ok (.ireturn, 1) := by decide +kernel
