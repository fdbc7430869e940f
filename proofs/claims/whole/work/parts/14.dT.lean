theorem dT_init_0 : decode bT_init 0 = .ok (.aload_n 0, 1) := by decide +kernel
theorem dT_init_1 : decode bT_init 1 = .ok (.invokespecial 3, 3) := by decide +kernel
theorem dT_init_4 : decode bT_init 4 = .ok (.aload_n 0, 1) := by decide +kernel
theorem dT_init_5 : decode bT_init 5 = .ok (.bipush 81, 2) := by decide +kernel
theorem dT_init_7 : decode bT_init 7 = .ok (.newarray .int, 2) := by decide +kernel
theorem dT_init_9 : decode bT_init 9 = .ok (.putfield 9, 3) := by decide +kernel
theorem dT_init_12 : decode bT_init 12 = .ok (.aload_n 0, 1) := by decide +kernel
theorem dT_init_13 : decode bT_init 13 = .ok (.bipush 81, 2) := by decide +kernel
theorem dT_init_15 : decode bT_init 15 = .ok (.newarray .int, 2) := by decide +kernel
theorem dT_init_17 : decode bT_init 17 = .ok (.putfield 15, 3) := by decide +kernel
theorem dT_init_20 : decode bT_init 20 = .ok (.aload_n 0, 1) := by decide +kernel
theorem dT_init_21 : decode bT_init 21 = .ok (.bipush 81, 2) := by decide +kernel
theorem dT_init_23 : decode bT_init 23 = .ok (.newarray .int, 2) := by decide +kernel
theorem dT_init_25 : decode bT_init 25 = .ok (.putfield 18, 3) := by decide +kernel
theorem dT_init_28 : decode bT_init 28 = .ok (.aload_n 0, 1) := by decide +kernel
theorem dT_init_29 : decode bT_init 29 = .ok (.iconst 0, 1) := by decide +kernel
theorem dT_init_30 : decode bT_init 30 = .ok (.putfield 21, 3) := by decide +kernel
theorem dT_init_33 : decode bT_init 33 = .ok (.return_, 1) := by decide +kernel
theorem dT_clear_0 : decode bT_clear 0 = .ok (.aload_n 0, 1) := by decide +kernel
theorem dT_clear_1 : decode bT_clear 1 = .ok (.iconst 0, 1) := by decide +kernel
theorem dT_clear_2 : decode bT_clear 2 = .ok (.putfield 21, 3) := by decide +kernel
theorem dT_clear_5 : decode bT_clear 5 = .ok (.return_, 1) := by decide +kernel
theorem dT_size_0 : decode bT_size 0 = .ok (.aload_n 0, 1) := by decide +kernel
theorem dT_size_1 : decode bT_size 1 = .ok (.getfield 21, 3) := by decide +kernel
theorem dT_size_4 : decode bT_size 4 = .ok (.ireturn, 1) := by decide +kernel
theorem dT_add_0 : decode bT_add 0 = .ok (.aload_n 0, 1) := by decide +kernel
theorem dT_add_1 : decode bT_add 1 = .ok (.getfield 21, 3) := by decide +kernel
theorem dT_add_4 : decode bT_add 4 = .ok (.aload_n 0, 1) := by decide +kernel
theorem dT_add_5 : decode bT_add 5 = .ok (.getfield 9, 3) := by decide +kernel
theorem dT_add_8 : decode bT_add 8 = .ok (.arraylength, 1) := by decide +kernel
theorem dT_add_9 : decode bT_add 9 = .ok (.if_icmp .lt 4, 3) := by decide +kernel
theorem dT_add_12 : decode bT_add 12 = .ok (.return_, 1) := by decide +kernel
theorem dT_add_13 : decode bT_add 13 = .ok (.aload_n 0, 1) := by decide +kernel
theorem dT_add_14 : decode bT_add 14 = .ok (.getfield 9, 3) := by decide +kernel
theorem dT_add_17 : decode bT_add 17 = .ok (.aload_n 0, 1) := by decide +kernel
theorem dT_add_18 : decode bT_add 18 = .ok (.getfield 21, 3) := by decide +kernel
theorem dT_add_21 : decode bT_add 21 = .ok (.iload_n 1, 1) := by decide +kernel
theorem dT_add_22 : decode bT_add 22 = .ok (.iastore, 1) := by decide +kernel
theorem dT_add_23 : decode bT_add 23 = .ok (.aload_n 0, 1) := by decide +kernel
theorem dT_add_24 : decode bT_add 24 = .ok (.getfield 15, 3) := by decide +kernel
theorem dT_add_27 : decode bT_add 27 = .ok (.aload_n 0, 1) := by decide +kernel
theorem dT_add_28 : decode bT_add 28 = .ok (.getfield 21, 3) := by decide +kernel
theorem dT_add_31 : decode bT_add 31 = .ok (.iload_n 2, 1) := by decide +kernel
theorem dT_add_32 : decode bT_add 32 = .ok (.iastore, 1) := by decide +kernel
theorem dT_add_33 : decode bT_add 33 = .ok (.aload_n 0, 1) := by decide +kernel
theorem dT_add_34 : decode bT_add 34 = .ok (.getfield 18, 3) := by decide +kernel
theorem dT_add_37 : decode bT_add 37 = .ok (.aload_n 0, 1) := by decide +kernel
theorem dT_add_38 : decode bT_add 38 = .ok (.getfield 21, 3) := by decide +kernel
theorem dT_add_41 : decode bT_add 41 = .ok (.iload_n 3, 1) := by decide +kernel
theorem dT_add_42 : decode bT_add 42 = .ok (.iastore, 1) := by decide +kernel
theorem dT_add_43 : decode bT_add 43 = .ok (.aload_n 0, 1) := by decide +kernel
theorem dT_add_44 : decode bT_add 44 = .ok (.dup, 1) := by decide +kernel
theorem dT_add_45 : decode bT_add 45 = .ok (.getfield 21, 3) := by decide +kernel
theorem dT_add_48 : decode bT_add 48 = .ok (.iconst 1, 1) := by decide +kernel
theorem dT_add_49 : decode bT_add 49 = .ok (.iadd, 1) := by decide +kernel
theorem dT_add_50 : decode bT_add 50 = .ok (.putfield 21, 3) := by decide +kernel
theorem dT_add_53 : decode bT_add 53 = .ok (.return_, 1) := by decide +kernel
theorem dT_kindAt_0 : decode bT_kindAt 0 = .ok (.iload_n 1, 1) := by decide +kernel
theorem dT_kindAt_1 : decode bT_kindAt 1 = .ok (.ifCond .lt 20, 3) := by decide +kernel
theorem dT_kindAt_4 : decode bT_kindAt 4 = .ok (.iload_n 1, 1) := by decide +kernel
theorem dT_kindAt_5 : decode bT_kindAt 5 = .ok (.aload_n 0, 1) := by decide +kernel
theorem dT_kindAt_6 : decode bT_kindAt 6 = .ok (.getfield 21, 3) := by decide +kernel
theorem dT_kindAt_9 : decode bT_kindAt 9 = .ok (.if_icmp .ge 12, 3) := by decide +kernel
theorem dT_kindAt_12 : decode bT_kindAt 12 = .ok (.aload_n 0, 1) := by decide +kernel
theorem dT_kindAt_13 : decode bT_kindAt 13 = .ok (.getfield 9, 3) := by decide +kernel
theorem dT_kindAt_16 : decode bT_kindAt 16 = .ok (.iload_n 1, 1) := by decide +kernel
theorem dT_kindAt_17 : decode bT_kindAt 17 = .ok (.iaload, 1) := by decide +kernel
theorem dT_kindAt_18 : decode bT_kindAt 18 = .ok (.goto 4, 3) := by decide +kernel
theorem dT_kindAt_21 : decode bT_kindAt 21 = .ok (.iconst 0, 1) := by decide +kernel
theorem dT_kindAt_22 : decode bT_kindAt 22 = .ok (.ireturn, 1) := by decide +kernel
theorem dT_valueAt_0 : decode bT_valueAt 0 = .ok (.iload_n 1, 1) := by decide +kernel
theorem dT_valueAt_1 : decode bT_valueAt 1 = .ok (.ifCond .lt 20, 3) := by decide +kernel
theorem dT_valueAt_4 : decode bT_valueAt 4 = .ok (.iload_n 1, 1) := by decide +kernel
theorem dT_valueAt_5 : decode bT_valueAt 5 = .ok (.aload_n 0, 1) := by decide +kernel
theorem dT_valueAt_6 : decode bT_valueAt 6 = .ok (.getfield 21, 3) := by decide +kernel
theorem dT_valueAt_9 : decode bT_valueAt 9 = .ok (.if_icmp .ge 12, 3) := by decide +kernel
theorem dT_valueAt_12 : decode bT_valueAt 12 = .ok (.aload_n 0, 1) := by decide +kernel
theorem dT_valueAt_13 : decode bT_valueAt 13 = .ok (.getfield 15, 3) := by decide +kernel
theorem dT_valueAt_16 : decode bT_valueAt 16 = .ok (.iload_n 1, 1) := by decide +kernel
theorem dT_valueAt_17 : decode bT_valueAt 17 = .ok (.iaload, 1) := by decide +kernel
theorem dT_valueAt_18 : decode bT_valueAt 18 = .ok (.goto 4, 3) := by decide +kernel
theorem dT_valueAt_21 : decode bT_valueAt 21 = .ok (.iconst 0, 1) := by decide +kernel
theorem dT_valueAt_22 : decode bT_valueAt 22 = .ok (.ireturn, 1) := by decide +kernel
theorem dT_placeAt_0 : decode bT_placeAt 0 = .ok (.iload_n 1, 1) := by decide +kernel
theorem dT_placeAt_1 : decode bT_placeAt 1 = .ok (.ifCond .lt 20, 3) := by decide +kernel
theorem dT_placeAt_4 : decode bT_placeAt 4 = .ok (.iload_n 1, 1) := by decide +kernel
theorem dT_placeAt_5 : decode bT_placeAt 5 = .ok (.aload_n 0, 1) := by decide +kernel
theorem dT_placeAt_6 : decode bT_placeAt 6 = .ok (.getfield 21, 3) := by decide +kernel
theorem dT_placeAt_9 : decode bT_placeAt 9 = .ok (.if_icmp .ge 12, 3) := by decide +kernel
theorem dT_placeAt_12 : decode bT_placeAt 12 = .ok (.aload_n 0, 1) := by decide +kernel
theorem dT_placeAt_13 : decode bT_placeAt 13 = .ok (.getfield 18, 3) := by decide +kernel
theorem dT_placeAt_16 : decode bT_placeAt 16 = .ok (.iload_n 1, 1) := by decide +kernel
theorem dT_placeAt_17 : decode bT_placeAt 17 = .ok (.iaload, 1) := by decide +kernel
theorem dT_placeAt_18 : decode bT_placeAt 18 = .ok (.goto 4, 3) := by decide +kernel
theorem dT_placeAt_21 : decode bT_placeAt 21 = .ok (.iconst 0, 1) := by decide +kernel
theorem dT_placeAt_22 : decode bT_placeAt 22 = .ok (.ireturn, 1) := by decide +kernel
