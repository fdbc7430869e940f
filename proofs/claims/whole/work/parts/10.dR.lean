theorem dR_init_0 : decode bR_init 0 = .ok (.aload_n 0, 1) := by decide +kernel
theorem dR_init_1 : decode bR_init 1 = .ok (.invokespecial 3, 3) := by decide +kernel
theorem dR_init_4 : decode bR_init 4 = .ok (.aload_n 0, 1) := by decide +kernel
theorem dR_init_5 : decode bR_init 5 = .ok (.bipush 30, 2) := by decide +kernel
theorem dR_init_7 : decode bR_init 7 = .ok (.newarray .int, 2) := by decide +kernel
theorem dR_init_9 : decode bR_init 9 = .ok (.putfield 9, 3) := by decide +kernel
theorem dR_init_12 : decode bR_init 12 = .ok (.aload_n 0, 1) := by decide +kernel
theorem dR_init_13 : decode bR_init 13 = .ok (.iconst 0, 1) := by decide +kernel
theorem dR_init_14 : decode bR_init 14 = .ok (.putfield 15, 3) := by decide +kernel
theorem dR_init_17 : decode bR_init 17 = .ok (.aload_n 0, 1) := by decide +kernel
theorem dR_init_18 : decode bR_init 18 = .ok (.iconst 0, 1) := by decide +kernel
theorem dR_init_19 : decode bR_init 19 = .ok (.putfield 19, 3) := by decide +kernel
theorem dR_init_22 : decode bR_init 22 = .ok (.return_, 1) := by decide +kernel
theorem dR_clear_0 : decode bR_clear 0 = .ok (.aload_n 0, 1) := by decide +kernel
theorem dR_clear_1 : decode bR_clear 1 = .ok (.iconst 0, 1) := by decide +kernel
theorem dR_clear_2 : decode bR_clear 2 = .ok (.putfield 15, 3) := by decide +kernel
theorem dR_clear_5 : decode bR_clear 5 = .ok (.aload_n 0, 1) := by decide +kernel
theorem dR_clear_6 : decode bR_clear 6 = .ok (.iconst 0, 1) := by decide +kernel
theorem dR_clear_7 : decode bR_clear 7 = .ok (.putfield 19, 3) := by decide +kernel
theorem dR_clear_10 : decode bR_clear 10 = .ok (.return_, 1) := by decide +kernel
theorem dR_size_0 : decode bR_size 0 = .ok (.aload_n 0, 1) := by decide +kernel
theorem dR_size_1 : decode bR_size 1 = .ok (.getfield 15, 3) := by decide +kernel
theorem dR_size_4 : decode bR_size 4 = .ok (.ireturn, 1) := by decide +kernel
theorem dR_mask_0 : decode bR_mask 0 = .ok (.aload_n 0, 1) := by decide +kernel
theorem dR_mask_1 : decode bR_mask 1 = .ok (.getfield 19, 3) := by decide +kernel
theorem dR_mask_4 : decode bR_mask 4 = .ok (.ireturn, 1) := by decide +kernel
theorem dR_at_0 : decode bR_at 0 = .ok (.iload_n 1, 1) := by decide +kernel
theorem dR_at_1 : decode bR_at 1 = .ok (.ifCond .lt 20, 3) := by decide +kernel
theorem dR_at_4 : decode bR_at 4 = .ok (.iload_n 1, 1) := by decide +kernel
theorem dR_at_5 : decode bR_at 5 = .ok (.aload_n 0, 1) := by decide +kernel
theorem dR_at_6 : decode bR_at 6 = .ok (.getfield 15, 3) := by decide +kernel
theorem dR_at_9 : decode bR_at 9 = .ok (.if_icmp .ge 12, 3) := by decide +kernel
theorem dR_at_12 : decode bR_at 12 = .ok (.aload_n 0, 1) := by decide +kernel
theorem dR_at_13 : decode bR_at 13 = .ok (.getfield 9, 3) := by decide +kernel
theorem dR_at_16 : decode bR_at 16 = .ok (.iload_n 1, 1) := by decide +kernel
theorem dR_at_17 : decode bR_at 17 = .ok (.iaload, 1) := by decide +kernel
theorem dR_at_18 : decode bR_at 18 = .ok (.goto 4, 3) := by decide +kernel
theorem dR_at_21 : decode bR_at 21 = .ok (.iconst (-1), 1) := by decide +kernel
theorem dR_at_22 : decode bR_at 22 = .ok (.ireturn, 1) := by decide +kernel
theorem dR_has_0 : decode bR_has 0 = .ok (.aload_n 0, 1) := by decide +kernel
theorem dR_has_1 : decode bR_has 1 = .ok (.getfield 19, 3) := by decide +kernel
theorem dR_has_4 : decode bR_has 4 = .ok (.iload_n 1, 1) := by decide +kernel
theorem dR_has_5 : decode bR_has 5 = .ok (.invokestatic 22, 3) := by decide +kernel
theorem dR_has_8 : decode bR_has 8 = .ok (.ireturn, 1) := by decide +kernel
theorem dR_add_0 : decode bR_add 0 = .ok (.iload_n 1, 1) := by decide +kernel
theorem dR_add_1 : decode bR_add 1 = .ok (.ifCond .lt 32, 3) := by decide +kernel
theorem dR_add_4 : decode bR_add 4 = .ok (.iload_n 1, 1) := by decide +kernel
theorem dR_add_5 : decode bR_add 5 = .ok (.bipush 30, 2) := by decide +kernel
theorem dR_add_7 : decode bR_add 7 = .ok (.if_icmp .ge 26, 3) := by decide +kernel
theorem dR_add_10 : decode bR_add 10 = .ok (.aload_n 0, 1) := by decide +kernel
theorem dR_add_11 : decode bR_add 11 = .ok (.getfield 19, 3) := by decide +kernel
theorem dR_add_14 : decode bR_add 14 = .ok (.iload_n 1, 1) := by decide +kernel
theorem dR_add_15 : decode bR_add 15 = .ok (.invokestatic 22, 3) := by decide +kernel
theorem dR_add_18 : decode bR_add 18 = .ok (.ifCond .ne 15, 3) := by decide +kernel
theorem dR_add_21 : decode bR_add 21 = .ok (.aload_n 0, 1) := by decide +kernel
theorem dR_add_22 : decode bR_add 22 = .ok (.getfield 15, 3) := by decide +kernel
theorem dR_add_25 : decode bR_add 25 = .ok (.aload_n 0, 1) := by decide +kernel
theorem dR_add_26 : decode bR_add 26 = .ok (.getfield 9, 3) := by decide +kernel
theorem dR_add_29 : decode bR_add 29 = .ok (.arraylength, 1) := by decide +kernel
theorem dR_add_30 : decode bR_add 30 = .ok (.if_icmp .lt 4, 3) := by decide +kernel
theorem dR_add_33 : decode bR_add 33 = .ok (.return_, 1) := by decide +kernel
theorem dR_add_34 : decode bR_add 34 = .ok (.aload_n 0, 1) := by decide +kernel
theorem dR_add_35 : decode bR_add 35 = .ok (.getfield 9, 3) := by decide +kernel
theorem dR_add_38 : decode bR_add 38 = .ok (.aload_n 0, 1) := by decide +kernel
theorem dR_add_39 : decode bR_add 39 = .ok (.getfield 15, 3) := by decide +kernel
theorem dR_add_42 : decode bR_add 42 = .ok (.iload_n 1, 1) := by decide +kernel
theorem dR_add_43 : decode bR_add 43 = .ok (.iastore, 1) := by decide +kernel
theorem dR_add_44 : decode bR_add 44 = .ok (.aload_n 0, 1) := by decide +kernel
theorem dR_add_45 : decode bR_add 45 = .ok (.dup, 1) := by decide +kernel
theorem dR_add_46 : decode bR_add 46 = .ok (.getfield 15, 3) := by decide +kernel
theorem dR_add_49 : decode bR_add 49 = .ok (.iconst 1, 1) := by decide +kernel
theorem dR_add_50 : decode bR_add 50 = .ok (.iadd, 1) := by decide +kernel
theorem dR_add_51 : decode bR_add 51 = .ok (.putfield 15, 3) := by decide +kernel
theorem dR_add_54 : decode bR_add 54 = .ok (.aload_n 0, 1) := by decide +kernel
theorem dR_add_55 : decode bR_add 55 = .ok (.dup, 1) := by decide +kernel
theorem dR_add_56 : decode bR_add 56 = .ok (.getfield 19, 3) := by decide +kernel
theorem dR_add_59 : decode bR_add 59 = .ok (.iconst 1, 1) := by decide +kernel
theorem dR_add_60 : decode bR_add 60 = .ok (.iload_n 1, 1) := by decide +kernel
theorem dR_add_61 : decode bR_add 61 = .ok (.ishl, 1) := by decide +kernel
theorem dR_add_62 : decode bR_add 62 = .ok (.ior, 1) := by decide +kernel
theorem dR_add_63 : decode bR_add 63 = .ok (.putfield 19, 3) := by decide +kernel
theorem dR_add_66 : decode bR_add 66 = .ok (.return_, 1) := by decide +kernel
theorem dR_addAll_0 : decode bR_addAll 0 = .ok (.iconst 0, 1) := by decide +kernel
theorem dR_addAll_1 : decode bR_addAll 1 = .ok (.istore_n 2, 1) := by decide +kernel
theorem dR_addAll_2 : decode bR_addAll 2 = .ok (.iload_n 2, 1) := by decide +kernel
theorem dR_addAll_3 : decode bR_addAll 3 = .ok (.aload_n 1, 1) := by decide +kernel
theorem dR_addAll_4 : decode bR_addAll 4 = .ok (.invokevirtual 26, 3) := by decide +kernel
theorem dR_addAll_7 : decode bR_addAll 7 = .ok (.if_icmp .ge 18, 3) := by decide +kernel
theorem dR_addAll_10 : decode bR_addAll 10 = .ok (.aload_n 0, 1) := by decide +kernel
theorem dR_addAll_11 : decode bR_addAll 11 = .ok (.aload_n 1, 1) := by decide +kernel
theorem dR_addAll_12 : decode bR_addAll 12 = .ok (.iload_n 2, 1) := by decide +kernel
theorem dR_addAll_13 : decode bR_addAll 13 = .ok (.invokevirtual 30, 3) := by decide +kernel
theorem dR_addAll_16 : decode bR_addAll 16 = .ok (.invokevirtual 34, 3) := by decide +kernel
theorem dR_addAll_19 : decode bR_addAll 19 = .ok (.iinc 2 1, 3) := by decide +kernel
theorem dR_addAll_22 : decode bR_addAll 22 = .ok (.goto (-20), 3) := by decide +kernel
theorem dR_addAll_25 : decode bR_addAll 25 = .ok (.return_, 1) := by decide +kernel
theorem dR_addByNumbers_0 : decode bR_addByNumbers 0 = .ok (.iconst 0, 1) := by decide +kernel
theorem dR_addByNumbers_1 : decode bR_addByNumbers 1 = .ok (.istore_n 2, 1) := by decide +kernel
theorem dR_addByNumbers_2 : decode bR_addByNumbers 2 = .ok (.iload_n 2, 1) := by decide +kernel
theorem dR_addByNumbers_3 : decode bR_addByNumbers 3 = .ok (.bipush 30, 2) := by decide +kernel
theorem dR_addByNumbers_5 : decode bR_addByNumbers 5 = .ok (.if_icmp .ge 22, 3) := by decide +kernel
theorem dR_addByNumbers_8 : decode bR_addByNumbers 8 = .ok (.iload_n 1, 1) := by decide +kernel
theorem dR_addByNumbers_9 : decode bR_addByNumbers 9 = .ok (.iload_n 2, 1) := by decide +kernel
theorem dR_addByNumbers_10 : decode bR_addByNumbers 10 = .ok (.invokestatic 22, 3) := by decide +kernel
theorem dR_addByNumbers_13 : decode bR_addByNumbers 13 = .ok (.ifCond .eq 8, 3) := by decide +kernel
theorem dR_addByNumbers_16 : decode bR_addByNumbers 16 = .ok (.aload_n 0, 1) := by decide +kernel
theorem dR_addByNumbers_17 : decode bR_addByNumbers 17 = .ok (.iload_n 2, 1) := by decide +kernel
theorem dR_addByNumbers_18 : decode bR_addByNumbers 18 = .ok (.invokevirtual 34, 3) := by decide +kernel
theorem dR_addByNumbers_21 : decode bR_addByNumbers 21 = .ok (.iinc 2 1, 3) := by decide +kernel
theorem dR_addByNumbers_24 : decode bR_addByNumbers 24 = .ok (.goto (-22), 3) := by decide +kernel
theorem dR_addByNumbers_27 : decode bR_addByNumbers 27 = .ok (.return_, 1) := by decide +kernel
theorem dR_copy_0 : decode bR_copy 0 = .ok (.aload_n 0, 1) := by decide +kernel
theorem dR_copy_1 : decode bR_copy 1 = .ok (.invokevirtual 38, 3) := by decide +kernel
theorem dR_copy_4 : decode bR_copy 4 = .ok (.aload_n 0, 1) := by decide +kernel
theorem dR_copy_5 : decode bR_copy 5 = .ok (.aload_n 1, 1) := by decide +kernel
theorem dR_copy_6 : decode bR_copy 6 = .ok (.invokevirtual 41, 3) := by decide +kernel
theorem dR_copy_9 : decode bR_copy 9 = .ok (.return_, 1) := by decide +kernel
theorem dR_keep_0 : decode bR_keep 0 = .ok (.aload_n 0, 1) := by decide +kernel
theorem dR_keep_1 : decode bR_keep 1 = .ok (.getfield 15, 3) := by decide +kernel
theorem dR_keep_4 : decode bR_keep 4 = .ok (.istore_n 2, 1) := by decide +kernel
theorem dR_keep_5 : decode bR_keep 5 = .ok (.aload_n 0, 1) := by decide +kernel
theorem dR_keep_6 : decode bR_keep 6 = .ok (.invokevirtual 38, 3) := by decide +kernel
theorem dR_keep_9 : decode bR_keep 9 = .ok (.iconst 0, 1) := by decide +kernel
theorem dR_keep_10 : decode bR_keep 10 = .ok (.istore_n 3, 1) := by decide +kernel
theorem dR_keep_11 : decode bR_keep 11 = .ok (.iload_n 3, 1) := by decide +kernel
theorem dR_keep_12 : decode bR_keep 12 = .ok (.iload_n 2, 1) := by decide +kernel
theorem dR_keep_13 : decode bR_keep 13 = .ok (.if_icmp .ge 41, 3) := by decide +kernel
theorem dR_keep_16 : decode bR_keep 16 = .ok (.iload_n 3, 1) := by decide +kernel
theorem dR_keep_17 : decode bR_keep 17 = .ok (.aload_n 0, 1) := by decide +kernel
theorem dR_keep_18 : decode bR_keep 18 = .ok (.getfield 9, 3) := by decide +kernel
theorem dR_keep_21 : decode bR_keep 21 = .ok (.arraylength, 1) := by decide +kernel
theorem dR_keep_22 : decode bR_keep 22 = .ok (.if_icmp .ge 32, 3) := by decide +kernel
theorem dR_keep_25 : decode bR_keep 25 = .ok (.iload_n 1, 1) := by decide +kernel
theorem dR_keep_26 : decode bR_keep 26 = .ok (.aload_n 0, 1) := by decide +kernel
theorem dR_keep_27 : decode bR_keep 27 = .ok (.getfield 9, 3) := by decide +kernel
theorem dR_keep_30 : decode bR_keep 30 = .ok (.iload_n 3, 1) := by decide +kernel
theorem dR_keep_31 : decode bR_keep 31 = .ok (.iaload, 1) := by decide +kernel
theorem dR_keep_32 : decode bR_keep 32 = .ok (.invokestatic 22, 3) := by decide +kernel
theorem dR_keep_35 : decode bR_keep 35 = .ok (.ifCond .eq 13, 3) := by decide +kernel
theorem dR_keep_38 : decode bR_keep 38 = .ok (.aload_n 0, 1) := by decide +kernel
theorem dR_keep_39 : decode bR_keep 39 = .ok (.aload_n 0, 1) := by decide +kernel
theorem dR_keep_40 : decode bR_keep 40 = .ok (.getfield 9, 3) := by decide +kernel
theorem dR_keep_43 : decode bR_keep 43 = .ok (.iload_n 3, 1) := by decide +kernel
theorem dR_keep_44 : decode bR_keep 44 = .ok (.iaload, 1) := by decide +kernel
theorem dR_keep_45 : decode bR_keep 45 = .ok (.invokevirtual 34, 3) := by decide +kernel
theorem dR_keep_48 : decode bR_keep 48 = .ok (.iinc 3 1, 3) := by decide +kernel
theorem dR_keep_51 : decode bR_keep 51 = .ok (.goto (-40), 3) := by decide +kernel
theorem dR_keep_54 : decode bR_keep 54 = .ok (.return_, 1) := by decide +kernel
theorem dR_reverse_0 : decode bR_reverse 0 = .ok (.iconst 0, 1) := by decide +kernel
theorem dR_reverse_1 : decode bR_reverse 1 = .ok (.istore_n 1, 1) := by decide +kernel
theorem dR_reverse_2 : decode bR_reverse 2 = .ok (.aload_n 0, 1) := by decide +kernel
theorem dR_reverse_3 : decode bR_reverse 3 = .ok (.getfield 15, 3) := by decide +kernel
theorem dR_reverse_6 : decode bR_reverse 6 = .ok (.iconst 1, 1) := by decide +kernel
theorem dR_reverse_7 : decode bR_reverse 7 = .ok (.isub, 1) := by decide +kernel
theorem dR_reverse_8 : decode bR_reverse 8 = .ok (.istore_n 2, 1) := by decide +kernel
theorem dR_reverse_9 : decode bR_reverse 9 = .ok (.iload_n 1, 1) := by decide +kernel
theorem dR_reverse_10 : decode bR_reverse 10 = .ok (.ifCond .lt 52, 3) := by decide +kernel
theorem dR_reverse_13 : decode bR_reverse 13 = .ok (.iload_n 1, 1) := by decide +kernel
theorem dR_reverse_14 : decode bR_reverse 14 = .ok (.iload_n 2, 1) := by decide +kernel
theorem dR_reverse_15 : decode bR_reverse 15 = .ok (.if_icmp .ge 47, 3) := by decide +kernel
theorem dR_reverse_18 : decode bR_reverse 18 = .ok (.iload_n 2, 1) := by decide +kernel
theorem dR_reverse_19 : decode bR_reverse 19 = .ok (.aload_n 0, 1) := by decide +kernel
theorem dR_reverse_20 : decode bR_reverse 20 = .ok (.getfield 9, 3) := by decide +kernel
theorem dR_reverse_23 : decode bR_reverse 23 = .ok (.arraylength, 1) := by decide +kernel
theorem dR_reverse_24 : decode bR_reverse 24 = .ok (.if_icmp .ge 38, 3) := by decide +kernel
theorem dR_reverse_27 : decode bR_reverse 27 = .ok (.aload_n 0, 1) := by decide +kernel
theorem dR_reverse_28 : decode bR_reverse 28 = .ok (.getfield 9, 3) := by decide +kernel
theorem dR_reverse_31 : decode bR_reverse 31 = .ok (.iload_n 1, 1) := by decide +kernel
theorem dR_reverse_32 : decode bR_reverse 32 = .ok (.iaload, 1) := by decide +kernel
theorem dR_reverse_33 : decode bR_reverse 33 = .ok (.istore_n 3, 1) := by decide +kernel
theorem dR_reverse_34 : decode bR_reverse 34 = .ok (.aload_n 0, 1) := by decide +kernel
theorem dR_reverse_35 : decode bR_reverse 35 = .ok (.getfield 9, 3) := by decide +kernel
theorem dR_reverse_38 : decode bR_reverse 38 = .ok (.iload_n 1, 1) := by decide +kernel
theorem dR_reverse_39 : decode bR_reverse 39 = .ok (.aload_n 0, 1) := by decide +kernel
theorem dR_reverse_40 : decode bR_reverse 40 = .ok (.getfield 9, 3) := by decide +kernel
theorem dR_reverse_43 : decode bR_reverse 43 = .ok (.iload_n 2, 1) := by decide +kernel
theorem dR_reverse_44 : decode bR_reverse 44 = .ok (.iaload, 1) := by decide +kernel
theorem dR_reverse_45 : decode bR_reverse 45 = .ok (.iastore, 1) := by decide +kernel
theorem dR_reverse_46 : decode bR_reverse 46 = .ok (.aload_n 0, 1) := by decide +kernel
theorem dR_reverse_47 : decode bR_reverse 47 = .ok (.getfield 9, 3) := by decide +kernel
theorem dR_reverse_50 : decode bR_reverse 50 = .ok (.iload_n 2, 1) := by decide +kernel
theorem dR_reverse_51 : decode bR_reverse 51 = .ok (.iload_n 3, 1) := by decide +kernel
theorem dR_reverse_52 : decode bR_reverse 52 = .ok (.iastore, 1) := by decide +kernel
theorem dR_reverse_53 : decode bR_reverse 53 = .ok (.iinc 1 1, 3) := by decide +kernel
theorem dR_reverse_56 : decode bR_reverse 56 = .ok (.iinc 2 (-1), 3) := by decide +kernel
theorem dR_reverse_59 : decode bR_reverse 59 = .ok (.goto (-50), 3) := by decide +kernel
theorem dR_reverse_62 : decode bR_reverse 62 = .ok (.return_, 1) := by decide +kernel
