theorem dX0_init_0 : decode cX0_init 0 = .ok (.aload_n 0, 1) := by decide +kernel
theorem dX0_init_1 : decode cX0_init 1 = .ok (.invokespecial 3, 3) := by decide +kernel
theorem dX0_init_4 : decode cX0_init 4 = .ok (.aload_n 0, 1) := by decide +kernel
theorem dX0_init_5 : decode cX0_init 5 = .ok (.bipush 96, 2) := by decide +kernel
theorem dX0_init_7 : decode cX0_init 7 = .ok (.newarray .int, 2) := by decide +kernel
theorem dX0_init_9 : decode cX0_init 9 = .ok (.putfield 9, 3) := by decide +kernel
theorem dX0_init_12 : decode cX0_init 12 = .ok (.aload_n 0, 1) := by decide +kernel
theorem dX0_init_13 : decode cX0_init 13 = .ok (.invokevirtual 15, 3) := by decide +kernel
theorem dX0_init_16 : decode cX0_init 16 = .ok (.return_, 1) := by decide +kernel
theorem dX0_begin_0 : decode cX0_begin 0 = .ok (.iconst 0, 1) := by decide +kernel
theorem dX0_begin_1 : decode cX0_begin 1 = .ok (.istore_n 1, 1) := by decide +kernel
theorem dX0_begin_2 : decode cX0_begin 2 = .ok (.iload_n 1, 1) := by decide +kernel
theorem dX0_begin_3 : decode cX0_begin 3 = .ok (.bipush 16, 2) := by decide +kernel
theorem dX0_begin_5 : decode cX0_begin 5 = .ok (.if_icmp .ge 14, 3) := by decide +kernel
theorem dX0_begin_8 : decode cX0_begin 8 = .ok (.aload_n 0, 1) := by decide +kernel
theorem dX0_begin_9 : decode cX0_begin 9 = .ok (.iload_n 1, 1) := by decide +kernel
theorem dX0_begin_10 : decode cX0_begin 10 = .ok (.invokevirtual 18, 3) := by decide +kernel
theorem dX0_begin_13 : decode cX0_begin 13 = .ok (.iinc 1 1, 3) := by decide +kernel
theorem dX0_begin_16 : decode cX0_begin 16 = .ok (.goto (-14), 3) := by decide +kernel
theorem dX0_begin_19 : decode cX0_begin 19 = .ok (.return_, 1) := by decide +kernel
theorem dX0_takeFrom_0 : decode cX0_takeFrom 0 = .ok (.aload_n 1, 1) := by decide +kernel
theorem dX0_takeFrom_1 : decode cX0_takeFrom 1 = .ok (.getfield 9, 3) := by decide +kernel
theorem dX0_takeFrom_4 : decode cX0_takeFrom 4 = .ok (.iconst 0, 1) := by decide +kernel
theorem dX0_takeFrom_5 : decode cX0_takeFrom 5 = .ok (.aload_n 0, 1) := by decide +kernel
theorem dX0_takeFrom_6 : decode cX0_takeFrom 6 = .ok (.getfield 9, 3) := by decide +kernel
theorem dX0_takeFrom_9 : decode cX0_takeFrom 9 = .ok (.iconst 0, 1) := by decide +kernel
theorem dX0_takeFrom_10 : decode cX0_takeFrom 10 = .ok (.bipush 96, 2) := by decide +kernel
theorem dX0_takeFrom_12 : decode cX0_takeFrom 12 = .ok (.invokestatic 22, 3) := by decide +kernel
theorem dX0_takeFrom_15 : decode cX0_takeFrom 15 = .ok (.return_, 1) := by decide +kernel
theorem dX0_property_0 : decode cX0_property 0 = .ok (.aload_n 0, 1) := by decide +kernel
theorem dX0_property_1 : decode cX0_property 1 = .ok (.getfield 9, 3) := by decide +kernel
theorem dX0_property_4 : decode cX0_property 4 = .ok (.iload_n 1, 1) := by decide +kernel
theorem dX0_property_5 : decode cX0_property 5 = .ok (.bipush 6, 2) := by decide +kernel
theorem dX0_property_7 : decode cX0_property 7 = .ok (.imul, 1) := by decide +kernel
theorem dX0_property_8 : decode cX0_property 8 = .ok (.iload_n 2, 1) := by decide +kernel
theorem dX0_property_9 : decode cX0_property 9 = .ok (.iadd, 1) := by decide +kernel
theorem dX0_property_10 : decode cX0_property 10 = .ok (.iaload, 1) := by decide +kernel
theorem dX0_property_11 : decode cX0_property 11 = .ok (.ireturn, 1) := by decide +kernel
theorem dX0_disarm_0 : decode cX0_disarm 0 = .ok (.iload_n 1, 1) := by decide +kernel
theorem dX0_disarm_1 : decode cX0_disarm 1 = .ok (.bipush 6, 2) := by decide +kernel
theorem dX0_disarm_3 : decode cX0_disarm 3 = .ok (.imul, 1) := by decide +kernel
theorem dX0_disarm_4 : decode cX0_disarm 4 = .ok (.istore_n 2, 1) := by decide +kernel
theorem dX0_disarm_5 : decode cX0_disarm 5 = .ok (.aload_n 0, 1) := by decide +kernel
theorem dX0_disarm_6 : decode cX0_disarm 6 = .ok (.getfield 9, 3) := by decide +kernel
theorem dX0_disarm_9 : decode cX0_disarm 9 = .ok (.iload_n 2, 1) := by decide +kernel
theorem dX0_disarm_10 : decode cX0_disarm 10 = .ok (.iconst 0, 1) := by decide +kernel
theorem dX0_disarm_11 : decode cX0_disarm 11 = .ok (.iadd, 1) := by decide +kernel
theorem dX0_disarm_12 : decode cX0_disarm 12 = .ok (.iconst 0, 1) := by decide +kernel
theorem dX0_disarm_13 : decode cX0_disarm 13 = .ok (.iastore, 1) := by decide +kernel
theorem dX0_disarm_14 : decode cX0_disarm 14 = .ok (.aload_n 0, 1) := by decide +kernel
theorem dX0_disarm_15 : decode cX0_disarm 15 = .ok (.getfield 9, 3) := by decide +kernel
theorem dX0_disarm_18 : decode cX0_disarm 18 = .ok (.iload_n 2, 1) := by decide +kernel
theorem dX0_disarm_19 : decode cX0_disarm 19 = .ok (.iconst 1, 1) := by decide +kernel
theorem dX0_disarm_20 : decode cX0_disarm 20 = .ok (.iadd, 1) := by decide +kernel
theorem dX0_disarm_21 : decode cX0_disarm 21 = .ok (.bipush (-9), 2) := by decide +kernel
theorem dX0_disarm_23 : decode cX0_disarm 23 = .ok (.iastore, 1) := by decide +kernel
theorem dX0_disarm_24 : decode cX0_disarm 24 = .ok (.aload_n 0, 1) := by decide +kernel
theorem dX0_disarm_25 : decode cX0_disarm 25 = .ok (.getfield 9, 3) := by decide +kernel
theorem dX0_disarm_28 : decode cX0_disarm 28 = .ok (.iload_n 2, 1) := by decide +kernel
theorem dX0_disarm_29 : decode cX0_disarm 29 = .ok (.iconst 2, 1) := by decide +kernel
theorem dX0_disarm_30 : decode cX0_disarm 30 = .ok (.iadd, 1) := by decide +kernel
theorem dX0_disarm_31 : decode cX0_disarm 31 = .ok (.bipush (-9), 2) := by decide +kernel
theorem dX0_disarm_33 : decode cX0_disarm 33 = .ok (.iastore, 1) := by decide +kernel
theorem dX0_disarm_34 : decode cX0_disarm 34 = .ok (.aload_n 0, 1) := by decide +kernel
theorem dX0_disarm_35 : decode cX0_disarm 35 = .ok (.getfield 9, 3) := by decide +kernel
theorem dX0_disarm_38 : decode cX0_disarm 38 = .ok (.iload_n 2, 1) := by decide +kernel
theorem dX0_disarm_39 : decode cX0_disarm 39 = .ok (.iconst 3, 1) := by decide +kernel
theorem dX0_disarm_40 : decode cX0_disarm 40 = .ok (.iadd, 1) := by decide +kernel
theorem dX0_disarm_41 : decode cX0_disarm 41 = .ok (.bipush (-9), 2) := by decide +kernel
theorem dX0_disarm_43 : decode cX0_disarm 43 = .ok (.iastore, 1) := by decide +kernel
theorem dX0_disarm_44 : decode cX0_disarm 44 = .ok (.aload_n 0, 1) := by decide +kernel
theorem dX0_disarm_45 : decode cX0_disarm 45 = .ok (.getfield 9, 3) := by decide +kernel
theorem dX0_disarm_48 : decode cX0_disarm 48 = .ok (.iload_n 2, 1) := by decide +kernel
theorem dX0_disarm_49 : decode cX0_disarm 49 = .ok (.iconst 4, 1) := by decide +kernel
theorem dX0_disarm_50 : decode cX0_disarm 50 = .ok (.iadd, 1) := by decide +kernel
theorem dX0_disarm_51 : decode cX0_disarm 51 = .ok (.iconst 0, 1) := by decide +kernel
theorem dX0_disarm_52 : decode cX0_disarm 52 = .ok (.iastore, 1) := by decide +kernel
theorem dX0_disarm_53 : decode cX0_disarm 53 = .ok (.aload_n 0, 1) := by decide +kernel
theorem dX0_disarm_54 : decode cX0_disarm 54 = .ok (.getfield 9, 3) := by decide +kernel
theorem dX0_disarm_57 : decode cX0_disarm 57 = .ok (.iload_n 2, 1) := by decide +kernel
theorem dX0_disarm_58 : decode cX0_disarm 58 = .ok (.iconst 5, 1) := by decide +kernel
theorem dX0_disarm_59 : decode cX0_disarm 59 = .ok (.iadd, 1) := by decide +kernel
theorem dX0_disarm_60 : decode cX0_disarm 60 = .ok (.iconst 0, 1) := by decide +kernel
theorem dX0_disarm_61 : decode cX0_disarm 61 = .ok (.iastore, 1) := by decide +kernel
theorem dX0_disarm_62 : decode cX0_disarm 62 = .ok (.return_, 1) := by decide +kernel
theorem dX0_isArmed_0 : decode cX0_isArmed 0 = .ok (.iload_n 1, 1) := by decide +kernel
theorem dX0_isArmed_1 : decode cX0_isArmed 1 = .ok (.ifCond .lt 27, 3) := by decide +kernel
theorem dX0_isArmed_4 : decode cX0_isArmed 4 = .ok (.iload_n 1, 1) := by decide +kernel
theorem dX0_isArmed_5 : decode cX0_isArmed 5 = .ok (.bipush 16, 2) := by decide +kernel
theorem dX0_isArmed_7 : decode cX0_isArmed 7 = .ok (.if_icmp .ge 21, 3) := by decide +kernel
theorem dX0_isArmed_10 : decode cX0_isArmed 10 = .ok (.aload_n 0, 1) := by decide +kernel
theorem dX0_isArmed_11 : decode cX0_isArmed 11 = .ok (.getfield 9, 3) := by decide +kernel
theorem dX0_isArmed_14 : decode cX0_isArmed 14 = .ok (.iload_n 1, 1) := by decide +kernel
theorem dX0_isArmed_15 : decode cX0_isArmed 15 = .ok (.bipush 6, 2) := by decide +kernel
theorem dX0_isArmed_17 : decode cX0_isArmed 17 = .ok (.imul, 1) := by decide +kernel
theorem dX0_isArmed_18 : decode cX0_isArmed 18 = .ok (.iconst 0, 1) := by decide +kernel
theorem dX0_isArmed_19 : decode cX0_isArmed 19 = .ok (.iadd, 1) := by decide +kernel
theorem dX0_isArmed_20 : decode cX0_isArmed 20 = .ok (.iaload, 1) := by decide +kernel
theorem dX0_isArmed_21 : decode cX0_isArmed 21 = .ok (.ifCond .le 7, 3) := by decide +kernel
theorem dX0_isArmed_24 : decode cX0_isArmed 24 = .ok (.iconst 1, 1) := by decide +kernel
theorem dX0_isArmed_25 : decode cX0_isArmed 25 = .ok (.goto 4, 3) := by decide +kernel
theorem dX0_isArmed_28 : decode cX0_isArmed 28 = .ok (.iconst 0, 1) := by decide +kernel
theorem dX0_isArmed_29 : decode cX0_isArmed 29 = .ok (.ireturn, 1) := by decide +kernel
theorem dX0_isFull_0 : decode cX0_isFull 0 = .ok (.aload_n 0, 1) := by decide +kernel
theorem dX0_isFull_1 : decode cX0_isFull 1 = .ok (.iload_n 1, 1) := by decide +kernel
theorem dX0_isFull_2 : decode cX0_isFull 2 = .ok (.iconst 0, 1) := by decide +kernel
theorem dX0_isFull_3 : decode cX0_isFull 3 = .ok (.invokevirtual 28, 3) := by decide +kernel
theorem dX0_isFull_6 : decode cX0_isFull 6 = .ok (.iconst 3, 1) := by decide +kernel
theorem dX0_isFull_7 : decode cX0_isFull 7 = .ok (.if_icmp .lt 7, 3) := by decide +kernel
theorem dX0_isFull_10 : decode cX0_isFull 10 = .ok (.iconst 1, 1) := by decide +kernel
theorem dX0_isFull_11 : decode cX0_isFull 11 = .ok (.goto 4, 3) := by decide +kernel
theorem dX0_isFull_14 : decode cX0_isFull 14 = .ok (.iconst 0, 1) := by decide +kernel
theorem dX0_isFull_15 : decode cX0_isFull 15 = .ok (.ireturn, 1) := by decide +kernel
theorem dX0_add_0 : decode cX0_add 0 = .ok (.iload_n 1, 1) := by decide +kernel
theorem dX0_add_1 : decode cX0_add 1 = .ok (.bipush 6, 2) := by decide +kernel
theorem dX0_add_3 : decode cX0_add 3 = .ok (.imul, 1) := by decide +kernel
theorem dX0_add_4 : decode cX0_add 4 = .ok (.istore 6, 2) := by decide +kernel
theorem dX0_add_6 : decode cX0_add 6 = .ok (.aload_n 0, 1) := by decide +kernel
theorem dX0_add_7 : decode cX0_add 7 = .ok (.getfield 9, 3) := by decide +kernel
theorem dX0_add_10 : decode cX0_add 10 = .ok (.iload 6, 2) := by decide +kernel
theorem dX0_add_12 : decode cX0_add 12 = .ok (.iconst 0, 1) := by decide +kernel
theorem dX0_add_13 : decode cX0_add 13 = .ok (.iadd, 1) := by decide +kernel
theorem dX0_add_14 : decode cX0_add 14 = .ok (.dup2, 1) := by decide +kernel
theorem dX0_add_15 : decode cX0_add 15 = .ok (.iaload, 1) := by decide +kernel
theorem dX0_add_16 : decode cX0_add 16 = .ok (.iconst 1, 1) := by decide +kernel
theorem dX0_add_17 : decode cX0_add 17 = .ok (.iadd, 1) := by decide +kernel
theorem dX0_add_18 : decode cX0_add 18 = .ok (.iastore, 1) := by decide +kernel
theorem dX0_add_19 : decode cX0_add 19 = .ok (.aload_n 0, 1) := by decide +kernel
theorem dX0_add_20 : decode cX0_add 20 = .ok (.getfield 9, 3) := by decide +kernel
theorem dX0_add_23 : decode cX0_add 23 = .ok (.iload 6, 2) := by decide +kernel
theorem dX0_add_25 : decode cX0_add 25 = .ok (.iconst 1, 1) := by decide +kernel
theorem dX0_add_26 : decode cX0_add 26 = .ok (.iadd, 1) := by decide +kernel
theorem dX0_add_27 : decode cX0_add 27 = .ok (.iload_n 2, 1) := by decide +kernel
theorem dX0_add_28 : decode cX0_add 28 = .ok (.iastore, 1) := by decide +kernel
theorem dX0_add_29 : decode cX0_add 29 = .ok (.aload_n 0, 1) := by decide +kernel
theorem dX0_add_30 : decode cX0_add 30 = .ok (.getfield 9, 3) := by decide +kernel
theorem dX0_add_33 : decode cX0_add 33 = .ok (.iload 6, 2) := by decide +kernel
theorem dX0_add_35 : decode cX0_add 35 = .ok (.iconst 2, 1) := by decide +kernel
theorem dX0_add_36 : decode cX0_add 36 = .ok (.iadd, 1) := by decide +kernel
theorem dX0_add_37 : decode cX0_add 37 = .ok (.iload_n 2, 1) := by decide +kernel
theorem dX0_add_38 : decode cX0_add 38 = .ok (.bipush (-9), 2) := by decide +kernel
theorem dX0_add_40 : decode cX0_add 40 = .ok (.if_icmp .ne 8, 3) := by decide +kernel
theorem dX0_add_43 : decode cX0_add 43 = .ok (.bipush (-9), 2) := by decide +kernel
theorem dX0_add_45 : decode cX0_add 45 = .ok (.goto 4, 3) := by decide +kernel
theorem dX0_add_48 : decode cX0_add 48 = .ok (.iload_n 3, 1) := by decide +kernel
theorem dX0_add_49 : decode cX0_add 49 = .ok (.iastore, 1) := by decide +kernel
theorem dX0_add_50 : decode cX0_add 50 = .ok (.aload_n 0, 1) := by decide +kernel
theorem dX0_add_51 : decode cX0_add 51 = .ok (.getfield 9, 3) := by decide +kernel
theorem dX0_add_54 : decode cX0_add 54 = .ok (.iload 6, 2) := by decide +kernel
theorem dX0_add_56 : decode cX0_add 56 = .ok (.iconst 3, 1) := by decide +kernel
theorem dX0_add_57 : decode cX0_add 57 = .ok (.iadd, 1) := by decide +kernel
theorem dX0_add_58 : decode cX0_add 58 = .ok (.iload_n 2, 1) := by decide +kernel
theorem dX0_add_59 : decode cX0_add 59 = .ok (.bipush (-9), 2) := by decide +kernel
theorem dX0_add_61 : decode cX0_add 61 = .ok (.if_icmp .ne 8, 3) := by decide +kernel
theorem dX0_add_64 : decode cX0_add 64 = .ok (.bipush (-9), 2) := by decide +kernel
theorem dX0_add_66 : decode cX0_add 66 = .ok (.goto 5, 3) := by decide +kernel
theorem dX0_add_69 : decode cX0_add 69 = .ok (.iload 4, 2) := by decide +kernel
theorem dX0_add_71 : decode cX0_add 71 = .ok (.iastore, 1) := by decide +kernel
theorem dX0_add_72 : decode cX0_add 72 = .ok (.aload_n 0, 1) := by decide +kernel
theorem dX0_add_73 : decode cX0_add 73 = .ok (.getfield 9, 3) := by decide +kernel
theorem dX0_add_76 : decode cX0_add 76 = .ok (.iload 6, 2) := by decide +kernel
theorem dX0_add_78 : decode cX0_add 78 = .ok (.iconst 4, 1) := by decide +kernel
theorem dX0_add_79 : decode cX0_add 79 = .ok (.iadd, 1) := by decide +kernel
theorem dX0_add_80 : decode cX0_add 80 = .ok (.iload 5, 2) := by decide +kernel
theorem dX0_add_82 : decode cX0_add 82 = .ok (.iastore, 1) := by decide +kernel
theorem dX0_add_83 : decode cX0_add 83 = .ok (.return_, 1) := by decide +kernel
theorem dX0_remove_0 : decode cX0_remove 0 = .ok (.aload_n 0, 1) := by decide +kernel
theorem dX0_remove_1 : decode cX0_remove 1 = .ok (.iload_n 1, 1) := by decide +kernel
theorem dX0_remove_2 : decode cX0_remove 2 = .ok (.iconst 0, 1) := by decide +kernel
theorem dX0_remove_3 : decode cX0_remove 3 = .ok (.invokevirtual 28, 3) := by decide +kernel
theorem dX0_remove_6 : decode cX0_remove 6 = .ok (.iconst 1, 1) := by decide +kernel
theorem dX0_remove_7 : decode cX0_remove 7 = .ok (.if_icmp .gt 11, 3) := by decide +kernel
theorem dX0_remove_10 : decode cX0_remove 10 = .ok (.aload_n 0, 1) := by decide +kernel
theorem dX0_remove_11 : decode cX0_remove 11 = .ok (.iload_n 1, 1) := by decide +kernel
theorem dX0_remove_12 : decode cX0_remove 12 = .ok (.invokevirtual 18, 3) := by decide +kernel
theorem dX0_remove_15 : decode cX0_remove 15 = .ok (.goto 18, 3) := by decide +kernel
theorem dX0_remove_18 : decode cX0_remove 18 = .ok (.aload_n 0, 1) := by decide +kernel
theorem dX0_remove_19 : decode cX0_remove 19 = .ok (.getfield 9, 3) := by decide +kernel
theorem dX0_remove_22 : decode cX0_remove 22 = .ok (.iload_n 1, 1) := by decide +kernel
theorem dX0_remove_23 : decode cX0_remove 23 = .ok (.bipush 6, 2) := by decide +kernel
theorem dX0_remove_25 : decode cX0_remove 25 = .ok (.imul, 1) := by decide +kernel
theorem dX0_remove_26 : decode cX0_remove 26 = .ok (.iconst 0, 1) := by decide +kernel
theorem dX0_remove_27 : decode cX0_remove 27 = .ok (.iadd, 1) := by decide +kernel
theorem dX0_remove_28 : decode cX0_remove 28 = .ok (.dup2, 1) := by decide +kernel
theorem dX0_remove_29 : decode cX0_remove 29 = .ok (.iaload, 1) := by decide +kernel
theorem dX0_remove_30 : decode cX0_remove 30 = .ok (.iconst 1, 1) := by decide +kernel
theorem dX0_remove_31 : decode cX0_remove 31 = .ok (.isub, 1) := by decide +kernel
theorem dX0_remove_32 : decode cX0_remove 32 = .ok (.iastore, 1) := by decide +kernel
theorem dX0_remove_33 : decode cX0_remove 33 = .ok (.return_, 1) := by decide +kernel
theorem dX0_armedSet_0 : decode cX0_armedSet 0 = .ok (.iconst 0, 1) := by decide +kernel
theorem dX0_armedSet_1 : decode cX0_armedSet 1 = .ok (.istore_n 1, 1) := by decide +kernel
theorem dX0_armedSet_2 : decode cX0_armedSet 2 = .ok (.iconst 0, 1) := by decide +kernel
theorem dX0_armedSet_3 : decode cX0_armedSet 3 = .ok (.istore_n 2, 1) := by decide +kernel
theorem dX0_armedSet_4 : decode cX0_armedSet 4 = .ok (.iload_n 2, 1) := by decide +kernel
theorem dX0_armedSet_5 : decode cX0_armedSet 5 = .ok (.bipush 16, 2) := by decide +kernel
theorem dX0_armedSet_7 : decode cX0_armedSet 7 = .ok (.if_icmp .ge 23, 3) := by decide +kernel
theorem dX0_armedSet_10 : decode cX0_armedSet 10 = .ok (.aload_n 0, 1) := by decide +kernel
theorem dX0_armedSet_11 : decode cX0_armedSet 11 = .ok (.iload_n 2, 1) := by decide +kernel
theorem dX0_armedSet_12 : decode cX0_armedSet 12 = .ok (.invokevirtual 32, 3) := by decide +kernel
theorem dX0_armedSet_15 : decode cX0_armedSet 15 = .ok (.ifCond .eq 9, 3) := by decide +kernel
theorem dX0_armedSet_18 : decode cX0_armedSet 18 = .ok (.iload_n 1, 1) := by decide +kernel
theorem dX0_armedSet_19 : decode cX0_armedSet 19 = .ok (.iconst 1, 1) := by decide +kernel
theorem dX0_armedSet_20 : decode cX0_armedSet 20 = .ok (.iload_n 2, 1) := by decide +kernel
theorem dX0_armedSet_21 : decode cX0_armedSet 21 = .ok (.ishl, 1) := by decide +kernel
theorem dX0_armedSet_22 : decode cX0_armedSet 22 = .ok (.ior, 1) := by decide +kernel
theorem dX0_armedSet_23 : decode cX0_armedSet 23 = .ok (.istore_n 1, 1) := by decide +kernel
theorem dX0_armedSet_24 : decode cX0_armedSet 24 = .ok (.iinc 2 1, 3) := by decide +kernel
theorem dX0_armedSet_27 : decode cX0_armedSet 27 = .ok (.goto (-23), 3) := by decide +kernel
theorem dX0_armedSet_30 : decode cX0_armedSet 30 = .ok (.iload_n 1, 1) := by decide +kernel
theorem dX0_armedSet_31 : decode cX0_armedSet 31 = .ok (.ireturn, 1) := by decide +kernel
theorem dX0_armedCount_0 : decode cX0_armedCount 0 = .ok (.aload_n 0, 1) := by decide +kernel
theorem dX0_armedCount_1 : decode cX0_armedCount 1 = .ok (.invokevirtual 36, 3) := by decide +kernel
theorem dX0_armedCount_4 : decode cX0_armedCount 4 = .ok (.invokestatic 40, 3) := by decide +kernel
theorem dX0_armedCount_7 : decode cX0_armedCount 7 = .ok (.ireturn, 1) := by decide +kernel
theorem dX0_apply_0 : decode cX0_apply 0 = .ok (.aload_n 1, 1) := by decide +kernel
theorem dX0_apply_1 : decode cX0_apply 1 = .ok (.getfield 46, 3) := by decide +kernel
theorem dX0_apply_4 : decode cX0_apply 4 = .ok (.istore_n 2, 1) := by decide +kernel
theorem dX0_apply_5 : decode cX0_apply 5 = .ok (.aload_n 0, 1) := by decide +kernel
theorem dX0_apply_6 : decode cX0_apply 6 = .ok (.iload_n 2, 1) := by decide +kernel
theorem dX0_apply_7 : decode cX0_apply 7 = .ok (.invokevirtual 32, 3) := by decide +kernel
theorem dX0_apply_10 : decode cX0_apply 10 = .ok (.ifCond .ne 5, 3) := by decide +kernel
theorem dX0_apply_13 : decode cX0_apply 13 = .ok (.iconst 0, 1) := by decide +kernel
theorem dX0_apply_14 : decode cX0_apply 14 = .ok (.ireturn, 1) := by decide +kernel
theorem dX0_apply_15 : decode cX0_apply 15 = .ok (.iload_n 2, 1) := by decide +kernel
theorem dX0_apply_16 : decode cX0_apply 16 = .ok (.bipush 6, 2) := by decide +kernel
theorem dX0_apply_18 : decode cX0_apply 18 = .ok (.imul, 1) := by decide +kernel
theorem dX0_apply_19 : decode cX0_apply 19 = .ok (.istore_n 3, 1) := by decide +kernel
theorem dX0_apply_20 : decode cX0_apply 20 = .ok (.aload_n 0, 1) := by decide +kernel
theorem dX0_apply_21 : decode cX0_apply 21 = .ok (.getfield 9, 3) := by decide +kernel
theorem dX0_apply_24 : decode cX0_apply 24 = .ok (.iload_n 3, 1) := by decide +kernel
theorem dX0_apply_25 : decode cX0_apply 25 = .ok (.iconst 1, 1) := by decide +kernel
theorem dX0_apply_26 : decode cX0_apply 26 = .ok (.iadd, 1) := by decide +kernel
theorem dX0_apply_27 : decode cX0_apply 27 = .ok (.iaload, 1) := by decide +kernel
theorem dX0_apply_28 : decode cX0_apply 28 = .ok (.istore 4, 2) := by decide +kernel
theorem dX0_apply_30 : decode cX0_apply 30 = .ok (.iload 4, 2) := by decide +kernel
theorem dX0_apply_32 : decode cX0_apply 32 = .ok (.invokestatic 52, 3) := by decide +kernel
theorem dX0_apply_35 : decode cX0_apply 35 = .ok (.ifCond .ne 5, 3) := by decide +kernel
theorem dX0_apply_38 : decode cX0_apply 38 = .ok (.iconst 1, 1) := by decide +kernel
theorem dX0_apply_39 : decode cX0_apply 39 = .ok (.ireturn, 1) := by decide +kernel
theorem dX0_apply_40 : decode cX0_apply 40 = .ok (.aload_n 1, 1) := by decide +kernel
theorem dX0_apply_41 : decode cX0_apply 41 = .ok (.getfield 55, 3) := by decide +kernel
theorem dX0_apply_44 : decode cX0_apply 44 = .ok (.iload 4, 2) := by decide +kernel
theorem dX0_apply_46 : decode cX0_apply 46 = .ok (.iaload, 1) := by decide +kernel
theorem dX0_apply_47 : decode cX0_apply 47 = .ok (.istore 5, 2) := by decide +kernel
theorem dX0_apply_49 : decode cX0_apply 49 = .ok (.aload_n 0, 1) := by decide +kernel
theorem dX0_apply_50 : decode cX0_apply 50 = .ok (.getfield 9, 3) := by decide +kernel
theorem dX0_apply_53 : decode cX0_apply 53 = .ok (.iload_n 3, 1) := by decide +kernel
theorem dX0_apply_54 : decode cX0_apply 54 = .ok (.iconst 3, 1) := by decide +kernel
theorem dX0_apply_55 : decode cX0_apply 55 = .ok (.iadd, 1) := by decide +kernel
theorem dX0_apply_56 : decode cX0_apply 56 = .ok (.iaload, 1) := by decide +kernel
theorem dX0_apply_57 : decode cX0_apply 57 = .ok (.istore 6, 2) := by decide +kernel
theorem dX0_apply_59 : decode cX0_apply 59 = .ok (.aload_n 0, 1) := by decide +kernel
theorem dX0_apply_60 : decode cX0_apply 60 = .ok (.getfield 9, 3) := by decide +kernel
theorem dX0_apply_63 : decode cX0_apply 63 = .ok (.iload_n 3, 1) := by decide +kernel
theorem dX0_apply_64 : decode cX0_apply 64 = .ok (.iconst 2, 1) := by decide +kernel
theorem dX0_apply_65 : decode cX0_apply 65 = .ok (.iadd, 1) := by decide +kernel
theorem dX0_apply_66 : decode cX0_apply 66 = .ok (.iaload, 1) := by decide +kernel
theorem dX0_apply_67 : decode cX0_apply 67 = .ok (.lookupswitch 51 #[(0, 25), (1, 38)], 25) := by decide +kernel
theorem dX0_apply_92 : decode cX0_apply 92 = .ok (.iload 5, 2) := by decide +kernel
theorem dX0_apply_94 : decode cX0_apply 94 = .ok (.iload 6, 2) := by decide +kernel
theorem dX0_apply_96 : decode cX0_apply 96 = .ok (.if_icmp .ge 7, 3) := by decide +kernel
theorem dX0_apply_99 : decode cX0_apply 99 = .ok (.iconst 1, 1) := by decide +kernel
theorem dX0_apply_100 : decode cX0_apply 100 = .ok (.goto 4, 3) := by decide +kernel
theorem dX0_apply_103 : decode cX0_apply 103 = .ok (.iconst 0, 1) := by decide +kernel
theorem dX0_apply_104 : decode cX0_apply 104 = .ok (.ireturn, 1) := by decide +kernel
theorem dX0_apply_105 : decode cX0_apply 105 = .ok (.iload 5, 2) := by decide +kernel
theorem dX0_apply_107 : decode cX0_apply 107 = .ok (.iload 6, 2) := by decide +kernel
theorem dX0_apply_109 : decode cX0_apply 109 = .ok (.if_icmp .ne 7, 3) := by decide +kernel
theorem dX0_apply_112 : decode cX0_apply 112 = .ok (.iconst 1, 1) := by decide +kernel
theorem dX0_apply_113 : decode cX0_apply 113 = .ok (.goto 4, 3) := by decide +kernel
theorem dX0_apply_116 : decode cX0_apply 116 = .ok (.iconst 0, 1) := by decide +kernel
theorem dX0_apply_117 : decode cX0_apply 117 = .ok (.ireturn, 1) := by decide +kernel
theorem dX0_apply_118 : decode cX0_apply 118 = .ok (.iload 5, 2) := by decide +kernel
theorem dX0_apply_120 : decode cX0_apply 120 = .ok (.iload 6, 2) := by decide +kernel
theorem dX0_apply_122 : decode cX0_apply 122 = .ok (.if_icmp .le 7, 3) := by decide +kernel
theorem dX0_apply_125 : decode cX0_apply 125 = .ok (.iconst 1, 1) := by decide +kernel
theorem dX0_apply_126 : decode cX0_apply 126 = .ok (.goto 4, 3) := by decide +kernel
theorem dX0_apply_129 : decode cX0_apply 129 = .ok (.iconst 0, 1) := by decide +kernel
theorem dX0_apply_130 : decode cX0_apply 130 = .ok (.ireturn, 1) := by decide +kernel
theorem dX0_stop_0 : decode cX0_stop 0 = .ok (.aload_n 0, 1) := by decide +kernel
theorem dX0_stop_1 : decode cX0_stop 1 = .ok (.aload_n 1, 1) := by decide +kernel
theorem dX0_stop_2 : decode cX0_stop 2 = .ok (.invokevirtual 58, 3) := by decide +kernel
theorem dX0_stop_5 : decode cX0_stop 5 = .ok (.ifCond .ne 5, 3) := by decide +kernel
theorem dX0_stop_8 : decode cX0_stop 8 = .ok (.iconst 0, 1) := by decide +kernel
theorem dX0_stop_9 : decode cX0_stop 9 = .ok (.ireturn, 1) := by decide +kernel
theorem dX0_stop_10 : decode cX0_stop 10 = .ok (.aload_n 1, 1) := by decide +kernel
theorem dX0_stop_11 : decode cX0_stop 11 = .ok (.getfield 46, 3) := by decide +kernel
theorem dX0_stop_14 : decode cX0_stop 14 = .ok (.bipush 6, 2) := by decide +kernel
theorem dX0_stop_16 : decode cX0_stop 16 = .ok (.imul, 1) := by decide +kernel
theorem dX0_stop_17 : decode cX0_stop 17 = .ok (.istore_n 2, 1) := by decide +kernel
theorem dX0_stop_18 : decode cX0_stop 18 = .ok (.aload_n 0, 1) := by decide +kernel
theorem dX0_stop_19 : decode cX0_stop 19 = .ok (.getfield 9, 3) := by decide +kernel
theorem dX0_stop_22 : decode cX0_stop 22 = .ok (.iload_n 2, 1) := by decide +kernel
theorem dX0_stop_23 : decode cX0_stop 23 = .ok (.iconst 4, 1) := by decide +kernel
theorem dX0_stop_24 : decode cX0_stop 24 = .ok (.iadd, 1) := by decide +kernel
theorem dX0_stop_25 : decode cX0_stop 25 = .ok (.iaload, 1) := by decide +kernel
theorem dX0_stop_26 : decode cX0_stop 26 = .ok (.ifCond .le 17, 3) := by decide +kernel
theorem dX0_stop_29 : decode cX0_stop 29 = .ok (.aload_n 0, 1) := by decide +kernel
theorem dX0_stop_30 : decode cX0_stop 30 = .ok (.getfield 9, 3) := by decide +kernel
theorem dX0_stop_33 : decode cX0_stop 33 = .ok (.iload_n 2, 1) := by decide +kernel
theorem dX0_stop_34 : decode cX0_stop 34 = .ok (.iconst 4, 1) := by decide +kernel
theorem dX0_stop_35 : decode cX0_stop 35 = .ok (.iadd, 1) := by decide +kernel
theorem dX0_stop_36 : decode cX0_stop 36 = .ok (.dup2, 1) := by decide +kernel
theorem dX0_stop_37 : decode cX0_stop 37 = .ok (.iaload, 1) := by decide +kernel
theorem dX0_stop_38 : decode cX0_stop 38 = .ok (.iconst 1, 1) := by decide +kernel
theorem dX0_stop_39 : decode cX0_stop 39 = .ok (.isub, 1) := by decide +kernel
theorem dX0_stop_40 : decode cX0_stop 40 = .ok (.iastore, 1) := by decide +kernel
theorem dX0_stop_41 : decode cX0_stop 41 = .ok (.iconst 0, 1) := by decide +kernel
theorem dX0_stop_42 : decode cX0_stop 42 = .ok (.ireturn, 1) := by decide +kernel
theorem dX0_stop_43 : decode cX0_stop 43 = .ok (.aload_n 0, 1) := by decide +kernel
theorem dX0_stop_44 : decode cX0_stop 44 = .ok (.getfield 9, 3) := by decide +kernel
theorem dX0_stop_47 : decode cX0_stop 47 = .ok (.iload_n 2, 1) := by decide +kernel
theorem dX0_stop_48 : decode cX0_stop 48 = .ok (.iconst 5, 1) := by decide +kernel
theorem dX0_stop_49 : decode cX0_stop 49 = .ok (.iadd, 1) := by decide +kernel
theorem dX0_stop_50 : decode cX0_stop 50 = .ok (.dup2, 1) := by decide +kernel
theorem dX0_stop_51 : decode cX0_stop 51 = .ok (.iaload, 1) := by decide +kernel
theorem dX0_stop_52 : decode cX0_stop 52 = .ok (.iconst 1, 1) := by decide +kernel
theorem dX0_stop_53 : decode cX0_stop 53 = .ok (.iadd, 1) := by decide +kernel
theorem dX0_stop_54 : decode cX0_stop 54 = .ok (.iastore, 1) := by decide +kernel
theorem dX0_stop_55 : decode cX0_stop 55 = .ok (.iconst 1, 1) := by decide +kernel
theorem dX0_stop_56 : decode cX0_stop 56 = .ok (.ireturn, 1) := by decide +kernel
theorem dX1_init_0 : decode cX1_init 0 = .ok (.aload_n 0, 1) := by decide +kernel
theorem dX1_init_1 : decode cX1_init 1 = .ok (.invokespecial 3, 3) := by decide +kernel
theorem dX1_init_4 : decode cX1_init 4 = .ok (.aload_n 0, 1) := by decide +kernel
theorem dX1_init_5 : decode cX1_init 5 = .ok (.new 9, 3) := by decide +kernel
theorem dX1_init_8 : decode cX1_init 8 = .ok (.dup, 1) := by decide +kernel
theorem dX1_init_9 : decode cX1_init 9 = .ok (.invokespecial 11, 3) := by decide +kernel
theorem dX1_init_12 : decode cX1_init 12 = .ok (.putfield 12, 3) := by decide +kernel
theorem dX1_init_15 : decode cX1_init 15 = .ok (.return_, 1) := by decide +kernel
theorem dX1_prepare_0 : decode cX1_prepare 0 = .ok (.aload_n 0, 1) := by decide +kernel
theorem dX1_prepare_1 : decode cX1_prepare 1 = .ok (.getfield 12, 3) := by decide +kernel
theorem dX1_prepare_4 : decode cX1_prepare 4 = .ok (.aload_n 1, 1) := by decide +kernel
theorem dX1_prepare_5 : decode cX1_prepare 5 = .ok (.invokevirtual 18, 3) := by decide +kernel
theorem dX1_prepare_8 : decode cX1_prepare 8 = .ok (.return_, 1) := by decide +kernel
theorem dX1_go_0 : decode cX1_go 0 = .ok (.aload_n 0, 1) := by decide +kernel
theorem dX1_go_1 : decode cX1_go 1 = .ok (.iconst 0, 1) := by decide +kernel
theorem dX1_go_2 : decode cX1_go 2 = .ok (.putfield 22, 3) := by decide +kernel
theorem dX1_go_5 : decode cX1_go 5 = .ok (.aload_n 0, 1) := by decide +kernel
theorem dX1_go_6 : decode cX1_go 6 = .ok (.aload_n 0, 1) := by decide +kernel
theorem dX1_go_7 : decode cX1_go 7 = .ok (.getfield 12, 3) := by decide +kernel
theorem dX1_go_10 : decode cX1_go 10 = .ok (.getfield 26, 3) := by decide +kernel
theorem dX1_go_13 : decode cX1_go 13 = .ok (.ifCond .eq 7, 3) := by decide +kernel
theorem dX1_go_16 : decode cX1_go 16 = .ok (.iconst 3, 1) := by decide +kernel
theorem dX1_go_17 : decode cX1_go 17 = .ok (.goto 4, 3) := by decide +kernel
theorem dX1_go_20 : decode cX1_go 20 = .ok (.iconst (-1), 1) := by decide +kernel
theorem dX1_go_21 : decode cX1_go 21 = .ok (.putfield 30, 3) := by decide +kernel
theorem dX1_go_24 : decode cX1_go 24 = .ok (.iconst 0, 1) := by decide +kernel
theorem dX1_go_25 : decode cX1_go 25 = .ok (.istore_n 3, 1) := by decide +kernel
theorem dX1_go_26 : decode cX1_go 26 = .ok (.iload_n 3, 1) := by decide +kernel
theorem dX1_go_27 : decode cX1_go 27 = .ok (.sipush 300, 3) := by decide +kernel
theorem dX1_go_30 : decode cX1_go 30 = .ok (.if_icmp .ge 98, 3) := by decide +kernel
theorem dX1_go_33 : decode cX1_go 33 = .ok (.aload_n 0, 1) := by decide +kernel
theorem dX1_go_34 : decode cX1_go 34 = .ok (.getfield 30, 3) := by decide +kernel
theorem dX1_go_37 : decode cX1_go 37 = .ok (.iconst (-1), 1) := by decide +kernel
theorem dX1_go_38 : decode cX1_go 38 = .ok (.if_icmp .ne 90, 3) := by decide +kernel
theorem dX1_go_41 : decode cX1_go 41 = .ok (.aload_n 0, 1) := by decide +kernel
theorem dX1_go_42 : decode cX1_go 42 = .ok (.getfield 12, 3) := by decide +kernel
theorem dX1_go_45 : decode cX1_go 45 = .ok (.getfield 33, 3) := by decide +kernel
theorem dX1_go_48 : decode cX1_go 48 = .ok (.iload_n 2, 1) := by decide +kernel
theorem dX1_go_49 : decode cX1_go 49 = .ok (.if_icmp .ne 27, 3) := by decide +kernel
theorem dX1_go_52 : decode cX1_go 52 = .ok (.aload_n 1, 1) := by decide +kernel
theorem dX1_go_53 : decode cX1_go 53 = .ok (.iload_n 2, 1) := by decide +kernel
theorem dX1_go_54 : decode cX1_go 54 = .ok (.invokevirtual 36, 3) := by decide +kernel
theorem dX1_go_57 : decode cX1_go 57 = .ok (.ifCond .eq 19, 3) := by decide +kernel
theorem dX1_go_60 : decode cX1_go 60 = .ok (.aload_n 0, 1) := by decide +kernel
theorem dX1_go_61 : decode cX1_go 61 = .ok (.getfield 12, 3) := by decide +kernel
theorem dX1_go_64 : decode cX1_go 64 = .ok (.dup, 1) := by decide +kernel
theorem dX1_go_65 : decode cX1_go 65 = .ok (.getfield 33, 3) := by decide +kernel
theorem dX1_go_68 : decode cX1_go 68 = .ok (.iconst 1, 1) := by decide +kernel
theorem dX1_go_69 : decode cX1_go 69 = .ok (.iadd, 1) := by decide +kernel
theorem dX1_go_70 : decode cX1_go 70 = .ok (.putfield 33, 3) := by decide +kernel
theorem dX1_go_73 : decode cX1_go 73 = .ok (.goto 20, 3) := by decide +kernel
theorem dX1_go_76 : decode cX1_go 76 = .ok (.aload_n 0, 1) := by decide +kernel
theorem dX1_go_77 : decode cX1_go 77 = .ok (.getfield 12, 3) := by decide +kernel
theorem dX1_go_80 : decode cX1_go 80 = .ok (.aload_n 1, 1) := by decide +kernel
theorem dX1_go_81 : decode cX1_go 81 = .ok (.invokevirtual 42, 3) := by decide +kernel
theorem dX1_go_84 : decode cX1_go 84 = .ok (.ifCond .ne 9, 3) := by decide +kernel
theorem dX1_go_87 : decode cX1_go 87 = .ok (.aload_n 0, 1) := by decide +kernel
theorem dX1_go_88 : decode cX1_go 88 = .ok (.iconst 4, 1) := by decide +kernel
theorem dX1_go_89 : decode cX1_go 89 = .ok (.putfield 30, 3) := by decide +kernel
theorem dX1_go_92 : decode cX1_go 92 = .ok (.return_, 1) := by decide +kernel
theorem dX1_go_93 : decode cX1_go 93 = .ok (.aload_n 0, 1) := by decide +kernel
theorem dX1_go_94 : decode cX1_go 94 = .ok (.dup, 1) := by decide +kernel
theorem dX1_go_95 : decode cX1_go 95 = .ok (.getfield 22, 3) := by decide +kernel
theorem dX1_go_98 : decode cX1_go 98 = .ok (.iconst 1, 1) := by decide +kernel
theorem dX1_go_99 : decode cX1_go 99 = .ok (.iadd, 1) := by decide +kernel
theorem dX1_go_100 : decode cX1_go 100 = .ok (.putfield 22, 3) := by decide +kernel
theorem dX1_go_103 : decode cX1_go 103 = .ok (.aload_n 0, 1) := by decide +kernel
theorem dX1_go_104 : decode cX1_go 104 = .ok (.aload_n 0, 1) := by decide +kernel
theorem dX1_go_105 : decode cX1_go 105 = .ok (.getfield 12, 3) := by decide +kernel
theorem dX1_go_108 : decode cX1_go 108 = .ok (.getfield 26, 3) := by decide +kernel
theorem dX1_go_111 : decode cX1_go 111 = .ok (.ifCond .eq 7, 3) := by decide +kernel
theorem dX1_go_114 : decode cX1_go 114 = .ok (.iconst 3, 1) := by decide +kernel
theorem dX1_go_115 : decode cX1_go 115 = .ok (.goto 4, 3) := by decide +kernel
theorem dX1_go_118 : decode cX1_go 118 = .ok (.iconst (-1), 1) := by decide +kernel
theorem dX1_go_119 : decode cX1_go 119 = .ok (.putfield 30, 3) := by decide +kernel
theorem dX1_go_122 : decode cX1_go 122 = .ok (.iinc 3 1, 3) := by decide +kernel
theorem dX1_go_125 : decode cX1_go 125 = .ok (.goto (-99), 3) := by decide +kernel
theorem dX1_go_128 : decode cX1_go 128 = .ok (.aload_n 0, 1) := by decide +kernel
theorem dX1_go_129 : decode cX1_go 129 = .ok (.aload_n 0, 1) := by decide +kernel
theorem dX1_go_130 : decode cX1_go 130 = .ok (.getfield 30, 3) := by decide +kernel
theorem dX1_go_133 : decode cX1_go 133 = .ok (.iconst (-1), 1) := by decide +kernel
theorem dX1_go_134 : decode cX1_go 134 = .ok (.if_icmp .ne 7, 3) := by decide +kernel
theorem dX1_go_137 : decode cX1_go 137 = .ok (.iconst 5, 1) := by decide +kernel
theorem dX1_go_138 : decode cX1_go 138 = .ok (.goto 7, 3) := by decide +kernel
theorem dX1_go_141 : decode cX1_go 141 = .ok (.aload_n 0, 1) := by decide +kernel
theorem dX1_go_142 : decode cX1_go 142 = .ok (.getfield 30, 3) := by decide +kernel
theorem dX1_go_145 : decode cX1_go 145 = .ok (.putfield 30, 3) := by decide +kernel
theorem dX1_go_148 : decode cX1_go 148 = .ok (.return_, 1) := by decide +kernel
theorem dX2_init_0 : decode cX2_init 0 = .ok (.aload_n 0, 1) := by decide +kernel
theorem dX2_init_1 : decode cX2_init 1 = .ok (.invokespecial 3, 3) := by decide +kernel
theorem dX2_init_4 : decode cX2_init 4 = .ok (.aload_n 0, 1) := by decide +kernel
theorem dX2_init_5 : decode cX2_init 5 = .ok (.bipush 14, 2) := by decide +kernel
theorem dX2_init_7 : decode cX2_init 7 = .ok (.anewarray 9, 3) := by decide +kernel
theorem dX2_init_10 : decode cX2_init 10 = .ok (.putfield 11, 3) := by decide +kernel
theorem dX2_init_13 : decode cX2_init 13 = .ok (.iconst 0, 1) := by decide +kernel
theorem dX2_init_14 : decode cX2_init 14 = .ok (.istore_n 1, 1) := by decide +kernel
theorem dX2_init_15 : decode cX2_init 15 = .ok (.iload_n 1, 1) := by decide +kernel
theorem dX2_init_16 : decode cX2_init 16 = .ok (.bipush 14, 2) := by decide +kernel
theorem dX2_init_18 : decode cX2_init 18 = .ok (.if_icmp .ge 22, 3) := by decide +kernel
theorem dX2_init_21 : decode cX2_init 21 = .ok (.aload_n 0, 1) := by decide +kernel
theorem dX2_init_22 : decode cX2_init 22 = .ok (.getfield 11, 3) := by decide +kernel
theorem dX2_init_25 : decode cX2_init 25 = .ok (.iload_n 1, 1) := by decide +kernel
theorem dX2_init_26 : decode cX2_init 26 = .ok (.new 9, 3) := by decide +kernel
theorem dX2_init_29 : decode cX2_init 29 = .ok (.dup, 1) := by decide +kernel
theorem dX2_init_30 : decode cX2_init 30 = .ok (.invokespecial 17, 3) := by decide +kernel
theorem dX2_init_33 : decode cX2_init 33 = .ok (.aastore, 1) := by decide +kernel
theorem dX2_init_34 : decode cX2_init 34 = .ok (.iinc 1 1, 3) := by decide +kernel
theorem dX2_init_37 : decode cX2_init 37 = .ok (.goto (-22), 3) := by decide +kernel
theorem dX2_init_40 : decode cX2_init 40 = .ok (.return_, 1) := by decide +kernel
theorem dX2_clear_0 : decode cX2_clear 0 = .ok (.aload_n 0, 1) := by decide +kernel
theorem dX2_clear_1 : decode cX2_clear 1 = .ok (.iconst 0, 1) := by decide +kernel
theorem dX2_clear_2 : decode cX2_clear 2 = .ok (.putfield 18, 3) := by decide +kernel
theorem dX2_clear_5 : decode cX2_clear 5 = .ok (.return_, 1) := by decide +kernel
theorem dX2_remember_0 : decode cX2_remember 0 = .ok (.aload_n 0, 1) := by decide +kernel
theorem dX2_remember_1 : decode cX2_remember 1 = .ok (.getfield 11, 3) := by decide +kernel
theorem dX2_remember_4 : decode cX2_remember 4 = .ok (.aload_n 0, 1) := by decide +kernel
theorem dX2_remember_5 : decode cX2_remember 5 = .ok (.getfield 22, 3) := by decide +kernel
theorem dX2_remember_8 : decode cX2_remember 8 = .ok (.aaload, 1) := by decide +kernel
theorem dX2_remember_9 : decode cX2_remember 9 = .ok (.aload_n 1, 1) := by decide +kernel
theorem dX2_remember_10 : decode cX2_remember 10 = .ok (.invokevirtual 25, 3) := by decide +kernel
theorem dX2_remember_13 : decode cX2_remember 13 = .ok (.aload_n 0, 1) := by decide +kernel
theorem dX2_remember_14 : decode cX2_remember 14 = .ok (.aload_n 0, 1) := by decide +kernel
theorem dX2_remember_15 : decode cX2_remember 15 = .ok (.getfield 22, 3) := by decide +kernel
theorem dX2_remember_18 : decode cX2_remember 18 = .ok (.iconst 1, 1) := by decide +kernel
theorem dX2_remember_19 : decode cX2_remember 19 = .ok (.iadd, 1) := by decide +kernel
theorem dX2_remember_20 : decode cX2_remember 20 = .ok (.bipush 14, 2) := by decide +kernel
theorem dX2_remember_22 : decode cX2_remember 22 = .ok (.irem, 1) := by decide +kernel
theorem dX2_remember_23 : decode cX2_remember 23 = .ok (.putfield 22, 3) := by decide +kernel
theorem dX2_remember_26 : decode cX2_remember 26 = .ok (.aload_n 0, 1) := by decide +kernel
theorem dX2_remember_27 : decode cX2_remember 27 = .ok (.aload_n 0, 1) := by decide +kernel
theorem dX2_remember_28 : decode cX2_remember 28 = .ok (.getfield 18, 3) := by decide +kernel
theorem dX2_remember_31 : decode cX2_remember 31 = .ok (.iconst 1, 1) := by decide +kernel
theorem dX2_remember_32 : decode cX2_remember 32 = .ok (.iadd, 1) := by decide +kernel
theorem dX2_remember_33 : decode cX2_remember 33 = .ok (.bipush 14, 2) := by decide +kernel
theorem dX2_remember_35 : decode cX2_remember 35 = .ok (.invokestatic 29, 3) := by decide +kernel
theorem dX2_remember_38 : decode cX2_remember 38 = .ok (.putfield 18, 3) := by decide +kernel
theorem dX2_remember_41 : decode cX2_remember 41 = .ok (.return_, 1) := by decide +kernel
theorem dX2_takeBack_0 : decode cX2_takeBack 0 = .ok (.aload_n 0, 1) := by decide +kernel
theorem dX2_takeBack_1 : decode cX2_takeBack 1 = .ok (.aload_n 0, 1) := by decide +kernel
theorem dX2_takeBack_2 : decode cX2_takeBack 2 = .ok (.getfield 22, 3) := by decide +kernel
theorem dX2_takeBack_5 : decode cX2_takeBack 5 = .ok (.bipush 14, 2) := by decide +kernel
theorem dX2_takeBack_7 : decode cX2_takeBack 7 = .ok (.iadd, 1) := by decide +kernel
theorem dX2_takeBack_8 : decode cX2_takeBack 8 = .ok (.iconst 1, 1) := by decide +kernel
theorem dX2_takeBack_9 : decode cX2_takeBack 9 = .ok (.isub, 1) := by decide +kernel
theorem dX2_takeBack_10 : decode cX2_takeBack 10 = .ok (.bipush 14, 2) := by decide +kernel
theorem dX2_takeBack_12 : decode cX2_takeBack 12 = .ok (.irem, 1) := by decide +kernel
theorem dX2_takeBack_13 : decode cX2_takeBack 13 = .ok (.putfield 22, 3) := by decide +kernel
theorem dX2_takeBack_16 : decode cX2_takeBack 16 = .ok (.aload_n 1, 1) := by decide +kernel
theorem dX2_takeBack_17 : decode cX2_takeBack 17 = .ok (.aload_n 0, 1) := by decide +kernel
theorem dX2_takeBack_18 : decode cX2_takeBack 18 = .ok (.getfield 11, 3) := by decide +kernel
theorem dX2_takeBack_21 : decode cX2_takeBack 21 = .ok (.aload_n 0, 1) := by decide +kernel
theorem dX2_takeBack_22 : decode cX2_takeBack 22 = .ok (.getfield 22, 3) := by decide +kernel
theorem dX2_takeBack_25 : decode cX2_takeBack 25 = .ok (.aaload, 1) := by decide +kernel
theorem dX2_takeBack_26 : decode cX2_takeBack 26 = .ok (.invokevirtual 25, 3) := by decide +kernel
theorem dX2_takeBack_29 : decode cX2_takeBack 29 = .ok (.aload_n 0, 1) := by decide +kernel
theorem dX2_takeBack_30 : decode cX2_takeBack 30 = .ok (.dup, 1) := by decide +kernel
theorem dX2_takeBack_31 : decode cX2_takeBack 31 = .ok (.getfield 18, 3) := by decide +kernel
theorem dX2_takeBack_34 : decode cX2_takeBack 34 = .ok (.iconst 1, 1) := by decide +kernel
theorem dX2_takeBack_35 : decode cX2_takeBack 35 = .ok (.isub, 1) := by decide +kernel
theorem dX2_takeBack_36 : decode cX2_takeBack 36 = .ok (.putfield 18, 3) := by decide +kernel
theorem dX2_takeBack_39 : decode cX2_takeBack 39 = .ok (.return_, 1) := by decide +kernel
theorem dX3_init_0 : decode cX3_init 0 = .ok (.aload_n 0, 1) := by decide +kernel
theorem dX3_init_1 : decode cX3_init 1 = .ok (.invokespecial 3, 3) := by decide +kernel
theorem dX3_init_4 : decode cX3_init 4 = .ok (.aload_n 0, 1) := by decide +kernel
theorem dX3_init_5 : decode cX3_init 5 = .ok (.iconst 4, 1) := by decide +kernel
theorem dX3_init_6 : decode cX3_init 6 = .ok (.newarray .int, 2) := by decide +kernel
theorem dX3_init_8 : decode cX3_init 8 = .ok (.putfield 9, 3) := by decide +kernel
theorem dX3_init_11 : decode cX3_init 11 = .ok (.aload_n 0, 1) := by decide +kernel
theorem dX3_init_12 : decode cX3_init 12 = .ok (.bipush 8, 2) := by decide +kernel
theorem dX3_init_14 : decode cX3_init 14 = .ok (.newarray .int, 2) := by decide +kernel
theorem dX3_init_16 : decode cX3_init 16 = .ok (.putfield 15, 3) := by decide +kernel
theorem dX3_init_19 : decode cX3_init 19 = .ok (.aload_n 0, 1) := by decide +kernel
theorem dX3_init_20 : decode cX3_init 20 = .ok (.bipush 8, 2) := by decide +kernel
theorem dX3_init_22 : decode cX3_init 22 = .ok (.newarray .int, 2) := by decide +kernel
theorem dX3_init_24 : decode cX3_init 24 = .ok (.putfield 18, 3) := by decide +kernel
theorem dX3_init_27 : decode cX3_init 27 = .ok (.return_, 1) := by decide +kernel
theorem dX3_begin_0 : decode cX3_begin 0 = .ok (.aload_n 0, 1) := by decide +kernel
theorem dX3_begin_1 : decode cX3_begin 1 = .ok (.getfield 9, 3) := by decide +kernel
theorem dX3_begin_4 : decode cX3_begin 4 = .ok (.iconst 0, 1) := by decide +kernel
theorem dX3_begin_5 : decode cX3_begin 5 = .ok (.invokestatic 21, 3) := by decide +kernel
theorem dX3_begin_8 : decode cX3_begin 8 = .ok (.aload_n 0, 1) := by decide +kernel
theorem dX3_begin_9 : decode cX3_begin 9 = .ok (.getfield 15, 3) := by decide +kernel
theorem dX3_begin_12 : decode cX3_begin 12 = .ok (.iconst 0, 1) := by decide +kernel
theorem dX3_begin_13 : decode cX3_begin 13 = .ok (.invokestatic 21, 3) := by decide +kernel
theorem dX3_begin_16 : decode cX3_begin 16 = .ok (.aload_n 0, 1) := by decide +kernel
theorem dX3_begin_17 : decode cX3_begin 17 = .ok (.iconst 0, 1) := by decide +kernel
theorem dX3_begin_18 : decode cX3_begin 18 = .ok (.putfield 27, 3) := by decide +kernel
theorem dX3_begin_21 : decode cX3_begin 21 = .ok (.aload_n 0, 1) := by decide +kernel
theorem dX3_begin_22 : decode cX3_begin 22 = .ok (.iconst 0, 1) := by decide +kernel
theorem dX3_begin_23 : decode cX3_begin 23 = .ok (.putfield 31, 3) := by decide +kernel
theorem dX3_begin_26 : decode cX3_begin 26 = .ok (.aload_n 0, 1) := by decide +kernel
theorem dX3_begin_27 : decode cX3_begin 27 = .ok (.iconst 0, 1) := by decide +kernel
theorem dX3_begin_28 : decode cX3_begin 28 = .ok (.putfield 34, 3) := by decide +kernel
theorem dX3_begin_31 : decode cX3_begin 31 = .ok (.aload_n 0, 1) := by decide +kernel
theorem dX3_begin_32 : decode cX3_begin 32 = .ok (.iconst 0, 1) := by decide +kernel
theorem dX3_begin_33 : decode cX3_begin 33 = .ok (.putfield 38, 3) := by decide +kernel
theorem dX3_begin_36 : decode cX3_begin 36 = .ok (.aload_n 0, 1) := by decide +kernel
theorem dX3_begin_37 : decode cX3_begin 37 = .ok (.iconst 0, 1) := by decide +kernel
theorem dX3_begin_38 : decode cX3_begin 38 = .ok (.putfield 41, 3) := by decide +kernel
theorem dX3_begin_41 : decode cX3_begin 41 = .ok (.return_, 1) := by decide +kernel
theorem dX3_takeFrom_0 : decode cX3_takeFrom 0 = .ok (.aload_n 1, 1) := by decide +kernel
theorem dX3_takeFrom_1 : decode cX3_takeFrom 1 = .ok (.getfield 9, 3) := by decide +kernel
theorem dX3_takeFrom_4 : decode cX3_takeFrom 4 = .ok (.iconst 0, 1) := by decide +kernel
theorem dX3_takeFrom_5 : decode cX3_takeFrom 5 = .ok (.aload_n 0, 1) := by decide +kernel
theorem dX3_takeFrom_6 : decode cX3_takeFrom 6 = .ok (.getfield 9, 3) := by decide +kernel
theorem dX3_takeFrom_9 : decode cX3_takeFrom 9 = .ok (.iconst 0, 1) := by decide +kernel
theorem dX3_takeFrom_10 : decode cX3_takeFrom 10 = .ok (.iconst 4, 1) := by decide +kernel
theorem dX3_takeFrom_11 : decode cX3_takeFrom 11 = .ok (.invokestatic 44, 3) := by decide +kernel
theorem dX3_takeFrom_14 : decode cX3_takeFrom 14 = .ok (.aload_n 1, 1) := by decide +kernel
theorem dX3_takeFrom_15 : decode cX3_takeFrom 15 = .ok (.getfield 15, 3) := by decide +kernel
theorem dX3_takeFrom_18 : decode cX3_takeFrom 18 = .ok (.iconst 0, 1) := by decide +kernel
theorem dX3_takeFrom_19 : decode cX3_takeFrom 19 = .ok (.aload_n 0, 1) := by decide +kernel
theorem dX3_takeFrom_20 : decode cX3_takeFrom 20 = .ok (.getfield 15, 3) := by decide +kernel
theorem dX3_takeFrom_23 : decode cX3_takeFrom 23 = .ok (.iconst 0, 1) := by decide +kernel
theorem dX3_takeFrom_24 : decode cX3_takeFrom 24 = .ok (.bipush 8, 2) := by decide +kernel
theorem dX3_takeFrom_26 : decode cX3_takeFrom 26 = .ok (.invokestatic 44, 3) := by decide +kernel
theorem dX3_takeFrom_29 : decode cX3_takeFrom 29 = .ok (.aload_n 1, 1) := by decide +kernel
theorem dX3_takeFrom_30 : decode cX3_takeFrom 30 = .ok (.getfield 18, 3) := by decide +kernel
theorem dX3_takeFrom_33 : decode cX3_takeFrom 33 = .ok (.iconst 0, 1) := by decide +kernel
theorem dX3_takeFrom_34 : decode cX3_takeFrom 34 = .ok (.aload_n 0, 1) := by decide +kernel
theorem dX3_takeFrom_35 : decode cX3_takeFrom 35 = .ok (.getfield 18, 3) := by decide +kernel
theorem dX3_takeFrom_38 : decode cX3_takeFrom 38 = .ok (.iconst 0, 1) := by decide +kernel
theorem dX3_takeFrom_39 : decode cX3_takeFrom 39 = .ok (.bipush 8, 2) := by decide +kernel
theorem dX3_takeFrom_41 : decode cX3_takeFrom 41 = .ok (.invokestatic 44, 3) := by decide +kernel
theorem dX3_takeFrom_44 : decode cX3_takeFrom 44 = .ok (.aload_n 0, 1) := by decide +kernel
theorem dX3_takeFrom_45 : decode cX3_takeFrom 45 = .ok (.aload_n 1, 1) := by decide +kernel
theorem dX3_takeFrom_46 : decode cX3_takeFrom 46 = .ok (.getfield 27, 3) := by decide +kernel
theorem dX3_takeFrom_49 : decode cX3_takeFrom 49 = .ok (.putfield 27, 3) := by decide +kernel
theorem dX3_takeFrom_52 : decode cX3_takeFrom 52 = .ok (.aload_n 0, 1) := by decide +kernel
theorem dX3_takeFrom_53 : decode cX3_takeFrom 53 = .ok (.aload_n 1, 1) := by decide +kernel
theorem dX3_takeFrom_54 : decode cX3_takeFrom 54 = .ok (.getfield 31, 3) := by decide +kernel
theorem dX3_takeFrom_57 : decode cX3_takeFrom 57 = .ok (.putfield 31, 3) := by decide +kernel
theorem dX3_takeFrom_60 : decode cX3_takeFrom 60 = .ok (.aload_n 0, 1) := by decide +kernel
theorem dX3_takeFrom_61 : decode cX3_takeFrom 61 = .ok (.aload_n 1, 1) := by decide +kernel
theorem dX3_takeFrom_62 : decode cX3_takeFrom 62 = .ok (.getfield 34, 3) := by decide +kernel
theorem dX3_takeFrom_65 : decode cX3_takeFrom 65 = .ok (.putfield 34, 3) := by decide +kernel
theorem dX3_takeFrom_68 : decode cX3_takeFrom 68 = .ok (.aload_n 0, 1) := by decide +kernel
theorem dX3_takeFrom_69 : decode cX3_takeFrom 69 = .ok (.aload_n 1, 1) := by decide +kernel
theorem dX3_takeFrom_70 : decode cX3_takeFrom 70 = .ok (.getfield 38, 3) := by decide +kernel
theorem dX3_takeFrom_73 : decode cX3_takeFrom 73 = .ok (.putfield 38, 3) := by decide +kernel
theorem dX3_takeFrom_76 : decode cX3_takeFrom 76 = .ok (.aload_n 0, 1) := by decide +kernel
theorem dX3_takeFrom_77 : decode cX3_takeFrom 77 = .ok (.aload_n 1, 1) := by decide +kernel
theorem dX3_takeFrom_78 : decode cX3_takeFrom 78 = .ok (.getfield 41, 3) := by decide +kernel
theorem dX3_takeFrom_81 : decode cX3_takeFrom 81 = .ok (.putfield 41, 3) := by decide +kernel
theorem dX3_takeFrom_84 : decode cX3_takeFrom 84 = .ok (.return_, 1) := by decide +kernel
theorem dX3_scatter_0 : decode cX3_scatter 0 = .ok (.iconst 0, 1) := by decide +kernel
theorem dX3_scatter_1 : decode cX3_scatter 1 = .ok (.istore_n 2, 1) := by decide +kernel
theorem dX3_scatter_2 : decode cX3_scatter 2 = .ok (.iload_n 2, 1) := by decide +kernel
theorem dX3_scatter_3 : decode cX3_scatter 3 = .ok (.iconst 4, 1) := by decide +kernel
theorem dX3_scatter_4 : decode cX3_scatter 4 = .ok (.if_icmp .ge 23, 3) := by decide +kernel
theorem dX3_scatter_7 : decode cX3_scatter 7 = .ok (.aload_n 0, 1) := by decide +kernel
theorem dX3_scatter_8 : decode cX3_scatter 8 = .ok (.getfield 9, 3) := by decide +kernel
theorem dX3_scatter_11 : decode cX3_scatter 11 = .ok (.iload_n 2, 1) := by decide +kernel
theorem dX3_scatter_12 : decode cX3_scatter 12 = .ok (.iload_n 1, 1) := by decide +kernel
theorem dX3_scatter_13 : decode cX3_scatter 13 = .ok (.iconst 4, 1) := by decide +kernel
theorem dX3_scatter_14 : decode cX3_scatter 14 = .ok (.iload_n 2, 1) := by decide +kernel
theorem dX3_scatter_15 : decode cX3_scatter 15 = .ok (.imul, 1) := by decide +kernel
theorem dX3_scatter_16 : decode cX3_scatter 16 = .ok (.ishr, 1) := by decide +kernel
theorem dX3_scatter_17 : decode cX3_scatter 17 = .ok (.bipush 15, 2) := by decide +kernel
theorem dX3_scatter_19 : decode cX3_scatter 19 = .ok (.iand, 1) := by decide +kernel
theorem dX3_scatter_20 : decode cX3_scatter 20 = .ok (.iastore, 1) := by decide +kernel
theorem dX3_scatter_21 : decode cX3_scatter 21 = .ok (.iinc 2 1, 3) := by decide +kernel
theorem dX3_scatter_24 : decode cX3_scatter 24 = .ok (.goto (-22), 3) := by decide +kernel
theorem dX3_scatter_27 : decode cX3_scatter 27 = .ok (.return_, 1) := by decide +kernel
theorem dX3_step_0 : decode cX3_step 0 = .ok (.aload_n 0, 1) := by decide +kernel
theorem dX3_step_1 : decode cX3_step 1 = .ok (.getfield 31, 3) := by decide +kernel
theorem dX3_step_4 : decode cX3_step 4 = .ok (.istore_n 2, 1) := by decide +kernel
theorem dX3_step_5 : decode cX3_step 5 = .ok (.aload_n 1, 1) := by decide +kernel
theorem dX3_step_6 : decode cX3_step 6 = .ok (.iload_n 2, 1) := by decide +kernel
theorem dX3_step_7 : decode cX3_step 7 = .ok (.invokevirtual 50, 3) := by decide +kernel
theorem dX3_step_10 : decode cX3_step 10 = .ok (.ifCond .ne 5, 3) := by decide +kernel
theorem dX3_step_13 : decode cX3_step 13 = .ok (.iconst 0, 1) := by decide +kernel
theorem dX3_step_14 : decode cX3_step 14 = .ok (.ireturn, 1) := by decide +kernel
theorem dX3_step_15 : decode cX3_step 15 = .ok (.aload_n 1, 1) := by decide +kernel
theorem dX3_step_16 : decode cX3_step 16 = .ok (.getfield 56, 3) := by decide +kernel
theorem dX3_step_19 : decode cX3_step 19 = .ok (.iload_n 2, 1) := by decide +kernel
theorem dX3_step_20 : decode cX3_step 20 = .ok (.iaload, 1) := by decide +kernel
theorem dX3_step_21 : decode cX3_step 21 = .ok (.istore_n 3, 1) := by decide +kernel
theorem dX3_step_22 : decode cX3_step 22 = .ok (.aload_n 1, 1) := by decide +kernel
theorem dX3_step_23 : decode cX3_step 23 = .ok (.getfield 59, 3) := by decide +kernel
theorem dX3_step_26 : decode cX3_step 26 = .ok (.iload_n 2, 1) := by decide +kernel
theorem dX3_step_27 : decode cX3_step 27 = .ok (.iaload, 1) := by decide +kernel
theorem dX3_step_28 : decode cX3_step 28 = .ok (.istore 4, 2) := by decide +kernel
theorem dX3_step_30 : decode cX3_step 30 = .ok (.iload_n 2, 1) := by decide +kernel
theorem dX3_step_31 : decode cX3_step 31 = .ok (.iconst 1, 1) := by decide +kernel
theorem dX3_step_32 : decode cX3_step 32 = .ok (.iadd, 1) := by decide +kernel
theorem dX3_step_33 : decode cX3_step 33 = .ok (.istore 5, 2) := by decide +kernel
theorem dX3_step_35 : decode cX3_step 35 = .ok (.aload_n 1, 1) := by decide +kernel
theorem dX3_step_36 : decode cX3_step 36 = .ok (.getfield 62, 3) := by decide +kernel
theorem dX3_step_39 : decode cX3_step 39 = .ok (.iload_n 2, 1) := by decide +kernel
theorem dX3_step_40 : decode cX3_step 40 = .ok (.iaload, 1) := by decide +kernel
theorem dX3_step_41 : decode cX3_step 41 = .ok (.lookupswitch 308 #[(43, 110), (45, 129), (98, 275), (99, 236), (105, 99), (106, 180), (107, 212), (108, 148), (111, 223), (115, 164), (122, 189)], 99) := by decide +kernel
theorem dX3_step_140 : decode cX3_step 140 = .ok (.aload_n 0, 1) := by decide +kernel
theorem dX3_step_141 : decode cX3_step 141 = .ok (.getfield 9, 3) := by decide +kernel
theorem dX3_step_144 : decode cX3_step 144 = .ok (.iload_n 3, 1) := by decide +kernel
theorem dX3_step_145 : decode cX3_step 145 = .ok (.iload 4, 2) := by decide +kernel
theorem dX3_step_147 : decode cX3_step 147 = .ok (.iastore, 1) := by decide +kernel
theorem dX3_step_148 : decode cX3_step 148 = .ok (.goto 209, 3) := by decide +kernel
theorem dX3_step_151 : decode cX3_step 151 = .ok (.aload_n 0, 1) := by decide +kernel
theorem dX3_step_152 : decode cX3_step 152 = .ok (.getfield 9, 3) := by decide +kernel
theorem dX3_step_155 : decode cX3_step 155 = .ok (.iload_n 3, 1) := by decide +kernel
theorem dX3_step_156 : decode cX3_step 156 = .ok (.dup2, 1) := by decide +kernel
theorem dX3_step_157 : decode cX3_step 157 = .ok (.iaload, 1) := by decide +kernel
theorem dX3_step_158 : decode cX3_step 158 = .ok (.aload_n 0, 1) := by decide +kernel
theorem dX3_step_159 : decode cX3_step 159 = .ok (.getfield 9, 3) := by decide +kernel
theorem dX3_step_162 : decode cX3_step 162 = .ok (.iload 4, 2) := by decide +kernel
theorem dX3_step_164 : decode cX3_step 164 = .ok (.iaload, 1) := by decide +kernel
theorem dX3_step_165 : decode cX3_step 165 = .ok (.iadd, 1) := by decide +kernel
theorem dX3_step_166 : decode cX3_step 166 = .ok (.iastore, 1) := by decide +kernel
theorem dX3_step_167 : decode cX3_step 167 = .ok (.goto 190, 3) := by decide +kernel
theorem dX3_step_170 : decode cX3_step 170 = .ok (.aload_n 0, 1) := by decide +kernel
theorem dX3_step_171 : decode cX3_step 171 = .ok (.getfield 9, 3) := by decide +kernel
theorem dX3_step_174 : decode cX3_step 174 = .ok (.iload_n 3, 1) := by decide +kernel
theorem dX3_step_175 : decode cX3_step 175 = .ok (.dup2, 1) := by decide +kernel
theorem dX3_step_176 : decode cX3_step 176 = .ok (.iaload, 1) := by decide +kernel
theorem dX3_step_177 : decode cX3_step 177 = .ok (.aload_n 0, 1) := by decide +kernel
theorem dX3_step_178 : decode cX3_step 178 = .ok (.getfield 9, 3) := by decide +kernel
theorem dX3_step_181 : decode cX3_step 181 = .ok (.iload 4, 2) := by decide +kernel
theorem dX3_step_183 : decode cX3_step 183 = .ok (.iaload, 1) := by decide +kernel
theorem dX3_step_184 : decode cX3_step 184 = .ok (.isub, 1) := by decide +kernel
theorem dX3_step_185 : decode cX3_step 185 = .ok (.iastore, 1) := by decide +kernel
theorem dX3_step_186 : decode cX3_step 186 = .ok (.goto 171, 3) := by decide +kernel
theorem dX3_step_189 : decode cX3_step 189 = .ok (.aload_n 0, 1) := by decide +kernel
theorem dX3_step_190 : decode cX3_step 190 = .ok (.getfield 9, 3) := by decide +kernel
theorem dX3_step_193 : decode cX3_step 193 = .ok (.iload_n 3, 1) := by decide +kernel
theorem dX3_step_194 : decode cX3_step 194 = .ok (.aload_n 0, 1) := by decide +kernel
theorem dX3_step_195 : decode cX3_step 195 = .ok (.getfield 15, 3) := by decide +kernel
theorem dX3_step_198 : decode cX3_step 198 = .ok (.iload 4, 2) := by decide +kernel
theorem dX3_step_200 : decode cX3_step 200 = .ok (.iaload, 1) := by decide +kernel
theorem dX3_step_201 : decode cX3_step 201 = .ok (.iastore, 1) := by decide +kernel
theorem dX3_step_202 : decode cX3_step 202 = .ok (.goto 155, 3) := by decide +kernel
theorem dX3_step_205 : decode cX3_step 205 = .ok (.aload_n 0, 1) := by decide +kernel
theorem dX3_step_206 : decode cX3_step 206 = .ok (.getfield 15, 3) := by decide +kernel
theorem dX3_step_209 : decode cX3_step 209 = .ok (.iload 4, 2) := by decide +kernel
theorem dX3_step_211 : decode cX3_step 211 = .ok (.aload_n 0, 1) := by decide +kernel
theorem dX3_step_212 : decode cX3_step 212 = .ok (.getfield 9, 3) := by decide +kernel
theorem dX3_step_215 : decode cX3_step 215 = .ok (.iload_n 3, 1) := by decide +kernel
theorem dX3_step_216 : decode cX3_step 216 = .ok (.iaload, 1) := by decide +kernel
theorem dX3_step_217 : decode cX3_step 217 = .ok (.iastore, 1) := by decide +kernel
theorem dX3_step_218 : decode cX3_step 218 = .ok (.goto 139, 3) := by decide +kernel
theorem dX3_step_221 : decode cX3_step 221 = .ok (.iload_n 2, 1) := by decide +kernel
theorem dX3_step_222 : decode cX3_step 222 = .ok (.iload 4, 2) := by decide +kernel
theorem dX3_step_224 : decode cX3_step 224 = .ok (.iadd, 1) := by decide +kernel
theorem dX3_step_225 : decode cX3_step 225 = .ok (.istore 5, 2) := by decide +kernel
theorem dX3_step_227 : decode cX3_step 227 = .ok (.goto 130, 3) := by decide +kernel
theorem dX3_step_230 : decode cX3_step 230 = .ok (.aload_n 0, 1) := by decide +kernel
theorem dX3_step_231 : decode cX3_step 231 = .ok (.getfield 9, 3) := by decide +kernel
theorem dX3_step_234 : decode cX3_step 234 = .ok (.iload_n 3, 1) := by decide +kernel
theorem dX3_step_235 : decode cX3_step 235 = .ok (.iaload, 1) := by decide +kernel
theorem dX3_step_236 : decode cX3_step 236 = .ok (.ifCond .ne 10, 3) := by decide +kernel
theorem dX3_step_239 : decode cX3_step 239 = .ok (.iload_n 2, 1) := by decide +kernel
theorem dX3_step_240 : decode cX3_step 240 = .ok (.iload 4, 2) := by decide +kernel
theorem dX3_step_242 : decode cX3_step 242 = .ok (.iadd, 1) := by decide +kernel
theorem dX3_step_243 : decode cX3_step 243 = .ok (.goto 5, 3) := by decide +kernel
theorem dX3_step_246 : decode cX3_step 246 = .ok (.iload 5, 2) := by decide +kernel
theorem dX3_step_248 : decode cX3_step 248 = .ok (.istore 5, 2) := by decide +kernel
theorem dX3_step_250 : decode cX3_step 250 = .ok (.goto 107, 3) := by decide +kernel
theorem dX3_step_253 : decode cX3_step 253 = .ok (.aload_n 0, 1) := by decide +kernel
theorem dX3_step_254 : decode cX3_step 254 = .ok (.getfield 9, 3) := by decide +kernel
theorem dX3_step_257 : decode cX3_step 257 = .ok (.iload_n 3, 1) := by decide +kernel
theorem dX3_step_258 : decode cX3_step 258 = .ok (.iload 5, 2) := by decide +kernel
theorem dX3_step_260 : decode cX3_step 260 = .ok (.iastore, 1) := by decide +kernel
theorem dX3_step_261 : decode cX3_step 261 = .ok (.goto 96, 3) := by decide +kernel
theorem dX3_step_264 : decode cX3_step 264 = .ok (.aload_n 0, 1) := by decide +kernel
theorem dX3_step_265 : decode cX3_step 265 = .ok (.aload_n 0, 1) := by decide +kernel
theorem dX3_step_266 : decode cX3_step 266 = .ok (.getfield 9, 3) := by decide +kernel
theorem dX3_step_269 : decode cX3_step 269 = .ok (.iload_n 3, 1) := by decide +kernel
theorem dX3_step_270 : decode cX3_step 270 = .ok (.iaload, 1) := by decide +kernel
theorem dX3_step_271 : decode cX3_step 271 = .ok (.invokevirtual 65, 3) := by decide +kernel
theorem dX3_step_274 : decode cX3_step 274 = .ok (.goto 83, 3) := by decide +kernel
theorem dX3_step_277 : decode cX3_step 277 = .ok (.aload_n 0, 1) := by decide +kernel
theorem dX3_step_278 : decode cX3_step 278 = .ok (.getfield 27, 3) := by decide +kernel
theorem dX3_step_281 : decode cX3_step 281 = .ok (.bipush 8, 2) := by decide +kernel
theorem dX3_step_283 : decode cX3_step 283 = .ok (.if_icmp .lt 5, 3) := by decide +kernel
theorem dX3_step_286 : decode cX3_step 286 = .ok (.iconst 0, 1) := by decide +kernel
theorem dX3_step_287 : decode cX3_step 287 = .ok (.ireturn, 1) := by decide +kernel
theorem dX3_step_288 : decode cX3_step 288 = .ok (.aload_n 0, 1) := by decide +kernel
theorem dX3_step_289 : decode cX3_step 289 = .ok (.getfield 18, 3) := by decide +kernel
theorem dX3_step_292 : decode cX3_step 292 = .ok (.aload_n 0, 1) := by decide +kernel
theorem dX3_step_293 : decode cX3_step 293 = .ok (.getfield 27, 3) := by decide +kernel
theorem dX3_step_296 : decode cX3_step 296 = .ok (.iload 5, 2) := by decide +kernel
theorem dX3_step_298 : decode cX3_step 298 = .ok (.iastore, 1) := by decide +kernel
theorem dX3_step_299 : decode cX3_step 299 = .ok (.aload_n 0, 1) := by decide +kernel
theorem dX3_step_300 : decode cX3_step 300 = .ok (.dup, 1) := by decide +kernel
theorem dX3_step_301 : decode cX3_step 301 = .ok (.getfield 27, 3) := by decide +kernel
theorem dX3_step_304 : decode cX3_step 304 = .ok (.iconst 1, 1) := by decide +kernel
theorem dX3_step_305 : decode cX3_step 305 = .ok (.iadd, 1) := by decide +kernel
theorem dX3_step_306 : decode cX3_step 306 = .ok (.putfield 27, 3) := by decide +kernel
theorem dX3_step_309 : decode cX3_step 309 = .ok (.iload 4, 2) := by decide +kernel
theorem dX3_step_311 : decode cX3_step 311 = .ok (.istore 5, 2) := by decide +kernel
theorem dX3_step_313 : decode cX3_step 313 = .ok (.goto 44, 3) := by decide +kernel
theorem dX3_step_316 : decode cX3_step 316 = .ok (.aload_n 0, 1) := by decide +kernel
theorem dX3_step_317 : decode cX3_step 317 = .ok (.getfield 27, 3) := by decide +kernel
theorem dX3_step_320 : decode cX3_step 320 = .ok (.ifCond .gt 5, 3) := by decide +kernel
theorem dX3_step_323 : decode cX3_step 323 = .ok (.iconst 0, 1) := by decide +kernel
theorem dX3_step_324 : decode cX3_step 324 = .ok (.ireturn, 1) := by decide +kernel
theorem dX3_step_325 : decode cX3_step 325 = .ok (.aload_n 0, 1) := by decide +kernel
theorem dX3_step_326 : decode cX3_step 326 = .ok (.dup, 1) := by decide +kernel
theorem dX3_step_327 : decode cX3_step 327 = .ok (.getfield 27, 3) := by decide +kernel
theorem dX3_step_330 : decode cX3_step 330 = .ok (.iconst 1, 1) := by decide +kernel
theorem dX3_step_331 : decode cX3_step 331 = .ok (.isub, 1) := by decide +kernel
theorem dX3_step_332 : decode cX3_step 332 = .ok (.putfield 27, 3) := by decide +kernel
theorem dX3_step_335 : decode cX3_step 335 = .ok (.aload_n 0, 1) := by decide +kernel
theorem dX3_step_336 : decode cX3_step 336 = .ok (.getfield 18, 3) := by decide +kernel
theorem dX3_step_339 : decode cX3_step 339 = .ok (.aload_n 0, 1) := by decide +kernel
theorem dX3_step_340 : decode cX3_step 340 = .ok (.getfield 27, 3) := by decide +kernel
theorem dX3_step_343 : decode cX3_step 343 = .ok (.iaload, 1) := by decide +kernel
theorem dX3_step_344 : decode cX3_step 344 = .ok (.istore 5, 2) := by decide +kernel
theorem dX3_step_346 : decode cX3_step 346 = .ok (.goto 11, 3) := by decide +kernel
theorem dX3_step_349 : decode cX3_step 349 = .ok (.aload_n 0, 1) := by decide +kernel
theorem dX3_step_350 : decode cX3_step 350 = .ok (.iconst 1, 1) := by decide +kernel
theorem dX3_step_351 : decode cX3_step 351 = .ok (.putfield 34, 3) := by decide +kernel
theorem dX3_step_354 : decode cX3_step 354 = .ok (.iload_n 2, 1) := by decide +kernel
theorem dX3_step_355 : decode cX3_step 355 = .ok (.istore 5, 2) := by decide +kernel
theorem dX3_step_357 : decode cX3_step 357 = .ok (.aload_n 0, 1) := by decide +kernel
theorem dX3_step_358 : decode cX3_step 358 = .ok (.iload 5, 2) := by decide +kernel
theorem dX3_step_360 : decode cX3_step 360 = .ok (.putfield 31, 3) := by decide +kernel
theorem dX3_step_363 : decode cX3_step 363 = .ok (.iconst 1, 1) := by decide +kernel
theorem dX3_step_364 : decode cX3_step 364 = .ok (.ireturn, 1) := by decide +kernel
theorem dX3_putOut_0 : decode cX3_putOut 0 = .ok (.aload_n 0, 1) := by decide +kernel
theorem dX3_putOut_1 : decode cX3_putOut 1 = .ok (.dup, 1) := by decide +kernel
theorem dX3_putOut_2 : decode cX3_putOut 2 = .ok (.getfield 38, 3) := by decide +kernel
theorem dX3_putOut_5 : decode cX3_putOut 5 = .ok (.iconst 1, 1) := by decide +kernel
theorem dX3_putOut_6 : decode cX3_putOut 6 = .ok (.iadd, 1) := by decide +kernel
theorem dX3_putOut_7 : decode cX3_putOut 7 = .ok (.putfield 38, 3) := by decide +kernel
theorem dX3_putOut_10 : decode cX3_putOut 10 = .ok (.aload_n 0, 1) := by decide +kernel
theorem dX3_putOut_11 : decode cX3_putOut 11 = .ok (.bipush 31, 2) := by decide +kernel
theorem dX3_putOut_13 : decode cX3_putOut 13 = .ok (.aload_n 0, 1) := by decide +kernel
theorem dX3_putOut_14 : decode cX3_putOut 14 = .ok (.getfield 41, 3) := by decide +kernel
theorem dX3_putOut_17 : decode cX3_putOut 17 = .ok (.imul, 1) := by decide +kernel
theorem dX3_putOut_18 : decode cX3_putOut 18 = .ok (.iload_n 1, 1) := by decide +kernel
theorem dX3_putOut_19 : decode cX3_putOut 19 = .ok (.iadd, 1) := by decide +kernel
theorem dX3_putOut_20 : decode cX3_putOut 20 = .ok (.putfield 41, 3) := by decide +kernel
theorem dX3_putOut_23 : decode cX3_putOut 23 = .ok (.return_, 1) := by decide +kernel
theorem dX4_init_0 : decode cX4_init 0 = .ok (.aload_n 0, 1) := by decide +kernel
theorem dX4_init_1 : decode cX4_init 1 = .ok (.invokespecial 3, 3) := by decide +kernel
theorem dX4_init_4 : decode cX4_init 4 = .ok (.aload_n 0, 1) := by decide +kernel
theorem dX4_init_5 : decode cX4_init 5 = .ok (.bipush 16, 2) := by decide +kernel
theorem dX4_init_7 : decode cX4_init 7 = .ok (.newarray .int, 2) := by decide +kernel
theorem dX4_init_9 : decode cX4_init 9 = .ok (.putfield 9, 3) := by decide +kernel
theorem dX4_init_12 : decode cX4_init 12 = .ok (.aload_n 0, 1) := by decide +kernel
theorem dX4_init_13 : decode cX4_init 13 = .ok (.bipush 16, 2) := by decide +kernel
theorem dX4_init_15 : decode cX4_init 15 = .ok (.newarray .int, 2) := by decide +kernel
theorem dX4_init_17 : decode cX4_init 17 = .ok (.putfield 15, 3) := by decide +kernel
theorem dX4_init_20 : decode cX4_init 20 = .ok (.aload_n 0, 1) := by decide +kernel
theorem dX4_init_21 : decode cX4_init 21 = .ok (.bipush 16, 2) := by decide +kernel
theorem dX4_init_23 : decode cX4_init 23 = .ok (.newarray .int, 2) := by decide +kernel
theorem dX4_init_25 : decode cX4_init 25 = .ok (.putfield 18, 3) := by decide +kernel
theorem dX4_init_28 : decode cX4_init 28 = .ok (.aload_n 0, 1) := by decide +kernel
theorem dX4_init_29 : decode cX4_init 29 = .ok (.bipush 16, 2) := by decide +kernel
theorem dX4_init_31 : decode cX4_init 31 = .ok (.newarray .int, 2) := by decide +kernel
theorem dX4_init_33 : decode cX4_init 33 = .ok (.putfield 21, 3) := by decide +kernel
theorem dX4_init_36 : decode cX4_init 36 = .ok (.return_, 1) := by decide +kernel
theorem dX4_has_0 : decode cX4_has 0 = .ok (.iload_n 1, 1) := by decide +kernel
theorem dX4_has_1 : decode cX4_has 1 = .ok (.ifCond .lt 15, 3) := by decide +kernel
theorem dX4_has_4 : decode cX4_has 4 = .ok (.iload_n 1, 1) := by decide +kernel
theorem dX4_has_5 : decode cX4_has 5 = .ok (.aload_n 0, 1) := by decide +kernel
theorem dX4_has_6 : decode cX4_has 6 = .ok (.getfield 24, 3) := by decide +kernel
theorem dX4_has_9 : decode cX4_has 9 = .ok (.if_icmp .ge 7, 3) := by decide +kernel
theorem dX4_has_12 : decode cX4_has 12 = .ok (.iconst 1, 1) := by decide +kernel
theorem dX4_has_13 : decode cX4_has 13 = .ok (.goto 4, 3) := by decide +kernel
theorem dX4_has_16 : decode cX4_has 16 = .ok (.iconst 0, 1) := by decide +kernel
theorem dX4_has_17 : decode cX4_has 17 = .ok (.ireturn, 1) := by decide +kernel
theorem dX4_add_0 : decode cX4_add 0 = .ok (.aload_n 0, 1) := by decide +kernel
theorem dX4_add_1 : decode cX4_add 1 = .ok (.getfield 24, 3) := by decide +kernel
theorem dX4_add_4 : decode cX4_add 4 = .ok (.bipush 16, 2) := by decide +kernel
theorem dX4_add_6 : decode cX4_add 6 = .ok (.if_icmp .lt 4, 3) := by decide +kernel
theorem dX4_add_9 : decode cX4_add 9 = .ok (.return_, 1) := by decide +kernel
theorem dX4_add_10 : decode cX4_add 10 = .ok (.aload_n 0, 1) := by decide +kernel
theorem dX4_add_11 : decode cX4_add 11 = .ok (.getfield 9, 3) := by decide +kernel
theorem dX4_add_14 : decode cX4_add 14 = .ok (.aload_n 0, 1) := by decide +kernel
theorem dX4_add_15 : decode cX4_add 15 = .ok (.getfield 24, 3) := by decide +kernel
theorem dX4_add_18 : decode cX4_add 18 = .ok (.iload_n 1, 1) := by decide +kernel
theorem dX4_add_19 : decode cX4_add 19 = .ok (.iastore, 1) := by decide +kernel
theorem dX4_add_20 : decode cX4_add 20 = .ok (.aload_n 0, 1) := by decide +kernel
theorem dX4_add_21 : decode cX4_add 21 = .ok (.getfield 15, 3) := by decide +kernel
theorem dX4_add_24 : decode cX4_add 24 = .ok (.aload_n 0, 1) := by decide +kernel
theorem dX4_add_25 : decode cX4_add 25 = .ok (.getfield 24, 3) := by decide +kernel
theorem dX4_add_28 : decode cX4_add 28 = .ok (.iload_n 2, 1) := by decide +kernel
theorem dX4_add_29 : decode cX4_add 29 = .ok (.iastore, 1) := by decide +kernel
theorem dX4_add_30 : decode cX4_add 30 = .ok (.aload_n 0, 1) := by decide +kernel
theorem dX4_add_31 : decode cX4_add 31 = .ok (.getfield 18, 3) := by decide +kernel
theorem dX4_add_34 : decode cX4_add 34 = .ok (.aload_n 0, 1) := by decide +kernel
theorem dX4_add_35 : decode cX4_add 35 = .ok (.getfield 24, 3) := by decide +kernel
theorem dX4_add_38 : decode cX4_add 38 = .ok (.iload_n 3, 1) := by decide +kernel
theorem dX4_add_39 : decode cX4_add 39 = .ok (.iastore, 1) := by decide +kernel
theorem dX4_add_40 : decode cX4_add 40 = .ok (.aload_n 0, 1) := by decide +kernel
theorem dX4_add_41 : decode cX4_add 41 = .ok (.getfield 21, 3) := by decide +kernel
theorem dX4_add_44 : decode cX4_add 44 = .ok (.aload_n 0, 1) := by decide +kernel
theorem dX4_add_45 : decode cX4_add 45 = .ok (.getfield 24, 3) := by decide +kernel
theorem dX4_add_48 : decode cX4_add 48 = .ok (.aload_n 0, 1) := by decide +kernel
theorem dX4_add_49 : decode cX4_add 49 = .ok (.aload_n 0, 1) := by decide +kernel
theorem dX4_add_50 : decode cX4_add 50 = .ok (.getfield 24, 3) := by decide +kernel
theorem dX4_add_53 : decode cX4_add 53 = .ok (.invokevirtual 28, 3) := by decide +kernel
theorem dX4_add_56 : decode cX4_add 56 = .ok (.iastore, 1) := by decide +kernel
theorem dX4_add_57 : decode cX4_add 57 = .ok (.aload_n 0, 1) := by decide +kernel
theorem dX4_add_58 : decode cX4_add 58 = .ok (.dup, 1) := by decide +kernel
theorem dX4_add_59 : decode cX4_add 59 = .ok (.getfield 24, 3) := by decide +kernel
theorem dX4_add_62 : decode cX4_add 62 = .ok (.iconst 1, 1) := by decide +kernel
theorem dX4_add_63 : decode cX4_add 63 = .ok (.iadd, 1) := by decide +kernel
theorem dX4_add_64 : decode cX4_add 64 = .ok (.putfield 24, 3) := by decide +kernel
theorem dX4_add_67 : decode cX4_add 67 = .ok (.return_, 1) := by decide +kernel
theorem dX4_modelOf_0 : decode cX4_modelOf 0 = .ok (.iconst 0, 1) := by decide +kernel
theorem dX4_modelOf_1 : decode cX4_modelOf 1 = .ok (.istore_n 2, 1) := by decide +kernel
theorem dX4_modelOf_2 : decode cX4_modelOf 2 = .ok (.iload_n 2, 1) := by decide +kernel
theorem dX4_modelOf_3 : decode cX4_modelOf 3 = .ok (.iload_n 1, 1) := by decide +kernel
theorem dX4_modelOf_4 : decode cX4_modelOf 4 = .ok (.if_icmp .ge 56, 3) := by decide +kernel
theorem dX4_modelOf_7 : decode cX4_modelOf 7 = .ok (.aload_n 0, 1) := by decide +kernel
theorem dX4_modelOf_8 : decode cX4_modelOf 8 = .ok (.getfield 9, 3) := by decide +kernel
theorem dX4_modelOf_11 : decode cX4_modelOf 11 = .ok (.iload_n 2, 1) := by decide +kernel
theorem dX4_modelOf_12 : decode cX4_modelOf 12 = .ok (.iaload, 1) := by decide +kernel
theorem dX4_modelOf_13 : decode cX4_modelOf 13 = .ok (.aload_n 0, 1) := by decide +kernel
theorem dX4_modelOf_14 : decode cX4_modelOf 14 = .ok (.getfield 9, 3) := by decide +kernel
theorem dX4_modelOf_17 : decode cX4_modelOf 17 = .ok (.iload_n 1, 1) := by decide +kernel
theorem dX4_modelOf_18 : decode cX4_modelOf 18 = .ok (.iaload, 1) := by decide +kernel
theorem dX4_modelOf_19 : decode cX4_modelOf 19 = .ok (.if_icmp .ne 35, 3) := by decide +kernel
theorem dX4_modelOf_22 : decode cX4_modelOf 22 = .ok (.aload_n 0, 1) := by decide +kernel
theorem dX4_modelOf_23 : decode cX4_modelOf 23 = .ok (.getfield 15, 3) := by decide +kernel
theorem dX4_modelOf_26 : decode cX4_modelOf 26 = .ok (.iload_n 2, 1) := by decide +kernel
theorem dX4_modelOf_27 : decode cX4_modelOf 27 = .ok (.iaload, 1) := by decide +kernel
theorem dX4_modelOf_28 : decode cX4_modelOf 28 = .ok (.aload_n 0, 1) := by decide +kernel
theorem dX4_modelOf_29 : decode cX4_modelOf 29 = .ok (.getfield 15, 3) := by decide +kernel
theorem dX4_modelOf_32 : decode cX4_modelOf 32 = .ok (.iload_n 1, 1) := by decide +kernel
theorem dX4_modelOf_33 : decode cX4_modelOf 33 = .ok (.iaload, 1) := by decide +kernel
theorem dX4_modelOf_34 : decode cX4_modelOf 34 = .ok (.if_icmp .ne 20, 3) := by decide +kernel
theorem dX4_modelOf_37 : decode cX4_modelOf 37 = .ok (.aload_n 0, 1) := by decide +kernel
theorem dX4_modelOf_38 : decode cX4_modelOf 38 = .ok (.getfield 18, 3) := by decide +kernel
theorem dX4_modelOf_41 : decode cX4_modelOf 41 = .ok (.iload_n 2, 1) := by decide +kernel
theorem dX4_modelOf_42 : decode cX4_modelOf 42 = .ok (.iaload, 1) := by decide +kernel
theorem dX4_modelOf_43 : decode cX4_modelOf 43 = .ok (.aload_n 0, 1) := by decide +kernel
theorem dX4_modelOf_44 : decode cX4_modelOf 44 = .ok (.getfield 18, 3) := by decide +kernel
theorem dX4_modelOf_47 : decode cX4_modelOf 47 = .ok (.iload_n 1, 1) := by decide +kernel
theorem dX4_modelOf_48 : decode cX4_modelOf 48 = .ok (.iaload, 1) := by decide +kernel
theorem dX4_modelOf_49 : decode cX4_modelOf 49 = .ok (.if_icmp .ne 5, 3) := by decide +kernel
theorem dX4_modelOf_52 : decode cX4_modelOf 52 = .ok (.iload_n 2, 1) := by decide +kernel
theorem dX4_modelOf_53 : decode cX4_modelOf 53 = .ok (.ireturn, 1) := by decide +kernel
theorem dX4_modelOf_54 : decode cX4_modelOf 54 = .ok (.iinc 2 1, 3) := by decide +kernel
theorem dX4_modelOf_57 : decode cX4_modelOf 57 = .ok (.goto (-55), 3) := by decide +kernel
theorem dX4_modelOf_60 : decode cX4_modelOf 60 = .ok (.iload_n 1, 1) := by decide +kernel
theorem dX4_modelOf_61 : decode cX4_modelOf 61 = .ok (.ireturn, 1) := by decide +kernel
theorem dX4_different_0 : decode cX4_different 0 = .ok (.iconst 0, 1) := by decide +kernel
theorem dX4_different_1 : decode cX4_different 1 = .ok (.istore_n 1, 1) := by decide +kernel
theorem dX4_different_2 : decode cX4_different 2 = .ok (.iconst 0, 1) := by decide +kernel
theorem dX4_different_3 : decode cX4_different 3 = .ok (.istore_n 2, 1) := by decide +kernel
theorem dX4_different_4 : decode cX4_different 4 = .ok (.iload_n 2, 1) := by decide +kernel
theorem dX4_different_5 : decode cX4_different 5 = .ok (.aload_n 0, 1) := by decide +kernel
theorem dX4_different_6 : decode cX4_different 6 = .ok (.getfield 24, 3) := by decide +kernel
theorem dX4_different_9 : decode cX4_different 9 = .ok (.if_icmp .ge 22, 3) := by decide +kernel
theorem dX4_different_12 : decode cX4_different 12 = .ok (.aload_n 0, 1) := by decide +kernel
theorem dX4_different_13 : decode cX4_different 13 = .ok (.getfield 21, 3) := by decide +kernel
theorem dX4_different_16 : decode cX4_different 16 = .ok (.iload_n 2, 1) := by decide +kernel
theorem dX4_different_17 : decode cX4_different 17 = .ok (.iaload, 1) := by decide +kernel
theorem dX4_different_18 : decode cX4_different 18 = .ok (.iload_n 2, 1) := by decide +kernel
theorem dX4_different_19 : decode cX4_different 19 = .ok (.if_icmp .ne 6, 3) := by decide +kernel
theorem dX4_different_22 : decode cX4_different 22 = .ok (.iinc 1 1, 3) := by decide +kernel
theorem dX4_different_25 : decode cX4_different 25 = .ok (.iinc 2 1, 3) := by decide +kernel
theorem dX4_different_28 : decode cX4_different 28 = .ok (.goto (-24), 3) := by decide +kernel
theorem dX4_different_31 : decode cX4_different 31 = .ok (.iload_n 1, 1) := by decide +kernel
theorem dX4_different_32 : decode cX4_different 32 = .ok (.ireturn, 1) := by decide +kernel
theorem dX4_savedCell_0 : decode cX4_savedCell 0 = .ok (.aload_n 0, 1) := by decide +kernel
theorem dX4_savedCell_1 : decode cX4_savedCell 1 = .ok (.iload_n 1, 1) := by decide +kernel
theorem dX4_savedCell_2 : decode cX4_savedCell 2 = .ok (.invokevirtual 32, 3) := by decide +kernel
theorem dX4_savedCell_5 : decode cX4_savedCell 5 = .ok (.ifCond .eq 23, 3) := by decide +kernel
theorem dX4_savedCell_8 : decode cX4_savedCell 8 = .ok (.aload_n 0, 1) := by decide +kernel
theorem dX4_savedCell_9 : decode cX4_savedCell 9 = .ok (.getfield 9, 3) := by decide +kernel
theorem dX4_savedCell_12 : decode cX4_savedCell 12 = .ok (.iload_n 1, 1) := by decide +kernel
theorem dX4_savedCell_13 : decode cX4_savedCell 13 = .ok (.iaload, 1) := by decide +kernel
theorem dX4_savedCell_14 : decode cX4_savedCell 14 = .ok (.bipush 115, 2) := by decide +kernel
theorem dX4_savedCell_16 : decode cX4_savedCell 16 = .ok (.if_icmp .ne 12, 3) := by decide +kernel
theorem dX4_savedCell_19 : decode cX4_savedCell 19 = .ok (.aload_n 0, 1) := by decide +kernel
theorem dX4_savedCell_20 : decode cX4_savedCell 20 = .ok (.getfield 18, 3) := by decide +kernel
theorem dX4_savedCell_23 : decode cX4_savedCell 23 = .ok (.iload_n 1, 1) := by decide +kernel
theorem dX4_savedCell_24 : decode cX4_savedCell 24 = .ok (.iaload, 1) := by decide +kernel
theorem dX4_savedCell_25 : decode cX4_savedCell 25 = .ok (.goto 5, 3) := by decide +kernel
theorem dX4_savedCell_28 : decode cX4_savedCell 28 = .ok (.bipush (-9), 2) := by decide +kernel
theorem dX4_savedCell_30 : decode cX4_savedCell 30 = .ok (.ireturn, 1) := by decide +kernel
theorem dX5_init_0 : decode cX5_init 0 = .ok (.aload_n 0, 1) := by decide +kernel
theorem dX5_init_1 : decode cX5_init 1 = .ok (.invokespecial 3, 3) := by decide +kernel
theorem dX5_init_4 : decode cX5_init 4 = .ok (.aload_n 0, 1) := by decide +kernel
theorem dX5_init_5 : decode cX5_init 5 = .ok (.bipush 6, 2) := by decide +kernel
theorem dX5_init_7 : decode cX5_init 7 = .ok (.newarray .int, 2) := by decide +kernel
theorem dX5_init_9 : decode cX5_init 9 = .ok (.putfield 9, 3) := by decide +kernel
theorem dX5_init_12 : decode cX5_init 12 = .ok (.aload_n 0, 1) := by decide +kernel
theorem dX5_init_13 : decode cX5_init 13 = .ok (.bipush 6, 2) := by decide +kernel
theorem dX5_init_15 : decode cX5_init 15 = .ok (.newarray .boolean, 2) := by decide +kernel
theorem dX5_init_17 : decode cX5_init 17 = .ok (.putfield 15, 3) := by decide +kernel
theorem dX5_init_20 : decode cX5_init 20 = .ok (.return_, 1) := by decide +kernel
theorem dX5_add_0 : decode cX5_add 0 = .ok (.aload_n 0, 1) := by decide +kernel
theorem dX5_add_1 : decode cX5_add 1 = .ok (.getfield 19, 3) := by decide +kernel
theorem dX5_add_4 : decode cX5_add 4 = .ok (.bipush 6, 2) := by decide +kernel
theorem dX5_add_6 : decode cX5_add 6 = .ok (.if_icmp .lt 4, 3) := by decide +kernel
theorem dX5_add_9 : decode cX5_add 9 = .ok (.return_, 1) := by decide +kernel
theorem dX5_add_10 : decode cX5_add 10 = .ok (.aload_n 0, 1) := by decide +kernel
theorem dX5_add_11 : decode cX5_add 11 = .ok (.getfield 9, 3) := by decide +kernel
theorem dX5_add_14 : decode cX5_add 14 = .ok (.aload_n 0, 1) := by decide +kernel
theorem dX5_add_15 : decode cX5_add 15 = .ok (.getfield 19, 3) := by decide +kernel
theorem dX5_add_18 : decode cX5_add 18 = .ok (.iload_n 1, 1) := by decide +kernel
theorem dX5_add_19 : decode cX5_add 19 = .ok (.iastore, 1) := by decide +kernel
theorem dX5_add_20 : decode cX5_add 20 = .ok (.aload_n 0, 1) := by decide +kernel
theorem dX5_add_21 : decode cX5_add 21 = .ok (.getfield 15, 3) := by decide +kernel
theorem dX5_add_24 : decode cX5_add 24 = .ok (.aload_n 0, 1) := by decide +kernel
theorem dX5_add_25 : decode cX5_add 25 = .ok (.getfield 19, 3) := by decide +kernel
theorem dX5_add_28 : decode cX5_add 28 = .ok (.iload_n 2, 1) := by decide +kernel
theorem dX5_add_29 : decode cX5_add 29 = .ok (.bastore, 1) := by decide +kernel
theorem dX5_add_30 : decode cX5_add 30 = .ok (.aload_n 0, 1) := by decide +kernel
theorem dX5_add_31 : decode cX5_add 31 = .ok (.dup, 1) := by decide +kernel
theorem dX5_add_32 : decode cX5_add 32 = .ok (.getfield 19, 3) := by decide +kernel
theorem dX5_add_35 : decode cX5_add 35 = .ok (.iconst 1, 1) := by decide +kernel
theorem dX5_add_36 : decode cX5_add 36 = .ok (.iadd, 1) := by decide +kernel
theorem dX5_add_37 : decode cX5_add 37 = .ok (.putfield 19, 3) := by decide +kernel
theorem dX5_add_40 : decode cX5_add 40 = .ok (.return_, 1) := by decide +kernel
theorem dX5_areTrue_0 : decode cX5_areTrue 0 = .ok (.iconst 0, 1) := by decide +kernel
theorem dX5_areTrue_1 : decode cX5_areTrue 1 = .ok (.istore_n 2, 1) := by decide +kernel
theorem dX5_areTrue_2 : decode cX5_areTrue 2 = .ok (.iload_n 2, 1) := by decide +kernel
theorem dX5_areTrue_3 : decode cX5_areTrue 3 = .ok (.aload_n 0, 1) := by decide +kernel
theorem dX5_areTrue_4 : decode cX5_areTrue 4 = .ok (.getfield 19, 3) := by decide +kernel
theorem dX5_areTrue_7 : decode cX5_areTrue 7 = .ok (.if_icmp .ge 35, 3) := by decide +kernel
theorem dX5_areTrue_10 : decode cX5_areTrue 10 = .ok (.iload_n 1, 1) := by decide +kernel
theorem dX5_areTrue_11 : decode cX5_areTrue 11 = .ok (.aload_n 0, 1) := by decide +kernel
theorem dX5_areTrue_12 : decode cX5_areTrue 12 = .ok (.getfield 9, 3) := by decide +kernel
theorem dX5_areTrue_15 : decode cX5_areTrue 15 = .ok (.iload_n 2, 1) := by decide +kernel
theorem dX5_areTrue_16 : decode cX5_areTrue 16 = .ok (.iaload, 1) := by decide +kernel
theorem dX5_areTrue_17 : decode cX5_areTrue 17 = .ok (.if_icmp .ne 7, 3) := by decide +kernel
theorem dX5_areTrue_20 : decode cX5_areTrue 20 = .ok (.iconst 1, 1) := by decide +kernel
theorem dX5_areTrue_21 : decode cX5_areTrue 21 = .ok (.goto 4, 3) := by decide +kernel
theorem dX5_areTrue_24 : decode cX5_areTrue 24 = .ok (.iconst 0, 1) := by decide +kernel
theorem dX5_areTrue_25 : decode cX5_areTrue 25 = .ok (.aload_n 0, 1) := by decide +kernel
theorem dX5_areTrue_26 : decode cX5_areTrue 26 = .ok (.getfield 15, 3) := by decide +kernel
theorem dX5_areTrue_29 : decode cX5_areTrue 29 = .ok (.iload_n 2, 1) := by decide +kernel
theorem dX5_areTrue_30 : decode cX5_areTrue 30 = .ok (.baload, 1) := by decide +kernel
theorem dX5_areTrue_31 : decode cX5_areTrue 31 = .ok (.if_icmp .eq 5, 3) := by decide +kernel
theorem dX5_areTrue_34 : decode cX5_areTrue 34 = .ok (.iconst 0, 1) := by decide +kernel
theorem dX5_areTrue_35 : decode cX5_areTrue 35 = .ok (.ireturn, 1) := by decide +kernel
theorem dX5_areTrue_36 : decode cX5_areTrue 36 = .ok (.iinc 2 1, 3) := by decide +kernel
theorem dX5_areTrue_39 : decode cX5_areTrue 39 = .ok (.goto (-37), 3) := by decide +kernel
theorem dX5_areTrue_42 : decode cX5_areTrue 42 = .ok (.iconst 1, 1) := by decide +kernel
theorem dX5_areTrue_43 : decode cX5_areTrue 43 = .ok (.ireturn, 1) := by decide +kernel
theorem dX6_init_0 : decode cX6_init 0 = .ok (.aload_n 0, 1) := by decide +kernel
theorem dX6_init_1 : decode cX6_init 1 = .ok (.invokespecial 3, 3) := by decide +kernel
theorem dX6_init_4 : decode cX6_init 4 = .ok (.aload_n 0, 1) := by decide +kernel
theorem dX6_init_5 : decode cX6_init 5 = .ok (.new 9, 3) := by decide +kernel
theorem dX6_init_8 : decode cX6_init 8 = .ok (.dup, 1) := by decide +kernel
theorem dX6_init_9 : decode cX6_init 9 = .ok (.invokespecial 11, 3) := by decide +kernel
theorem dX6_init_12 : decode cX6_init 12 = .ok (.putfield 12, 3) := by decide +kernel
theorem dX6_init_15 : decode cX6_init 15 = .ok (.aload_n 0, 1) := by decide +kernel
theorem dX6_init_16 : decode cX6_init 16 = .ok (.new 18, 3) := by decide +kernel
theorem dX6_init_19 : decode cX6_init 19 = .ok (.dup, 1) := by decide +kernel
theorem dX6_init_20 : decode cX6_init 20 = .ok (.invokespecial 20, 3) := by decide +kernel
theorem dX6_init_23 : decode cX6_init 23 = .ok (.putfield 21, 3) := by decide +kernel
theorem dX6_init_26 : decode cX6_init 26 = .ok (.aload_n 0, 1) := by decide +kernel
theorem dX6_init_27 : decode cX6_init 27 = .ok (.iconst 3, 1) := by decide +kernel
theorem dX6_init_28 : decode cX6_init 28 = .ok (.newarray .int, 2) := by decide +kernel
theorem dX6_init_30 : decode cX6_init 30 = .ok (.putfield 25, 3) := by decide +kernel
theorem dX6_init_33 : decode cX6_init 33 = .ok (.return_, 1) := by decide +kernel
theorem dX6_begin_0 : decode cX6_begin 0 = .ok (.aload_n 0, 1) := by decide +kernel
theorem dX6_begin_1 : decode cX6_begin 1 = .ok (.getfield 12, 3) := by decide +kernel
theorem dX6_begin_4 : decode cX6_begin 4 = .ok (.invokevirtual 29, 3) := by decide +kernel
theorem dX6_begin_7 : decode cX6_begin 7 = .ok (.aload_n 0, 1) := by decide +kernel
theorem dX6_begin_8 : decode cX6_begin 8 = .ok (.getfield 21, 3) := by decide +kernel
theorem dX6_begin_11 : decode cX6_begin 11 = .ok (.invokevirtual 32, 3) := by decide +kernel
theorem dX6_begin_14 : decode cX6_begin 14 = .ok (.aload_n 0, 1) := by decide +kernel
theorem dX6_begin_15 : decode cX6_begin 15 = .ok (.iconst 0, 1) := by decide +kernel
theorem dX6_begin_16 : decode cX6_begin 16 = .ok (.putfield 33, 3) := by decide +kernel
theorem dX6_begin_19 : decode cX6_begin 19 = .ok (.aload_n 0, 1) := by decide +kernel
theorem dX6_begin_20 : decode cX6_begin 20 = .ok (.iconst 0, 1) := by decide +kernel
theorem dX6_begin_21 : decode cX6_begin 21 = .ok (.putfield 37, 3) := by decide +kernel
theorem dX6_begin_24 : decode cX6_begin 24 = .ok (.aload_n 0, 1) := by decide +kernel
theorem dX6_begin_25 : decode cX6_begin 25 = .ok (.iconst 0, 1) := by decide +kernel
theorem dX6_begin_26 : decode cX6_begin 26 = .ok (.putfield 40, 3) := by decide +kernel
theorem dX6_begin_29 : decode cX6_begin 29 = .ok (.aload_n 0, 1) := by decide +kernel
theorem dX6_begin_30 : decode cX6_begin 30 = .ok (.iconst 0, 1) := by decide +kernel
theorem dX6_begin_31 : decode cX6_begin 31 = .ok (.putfield 43, 3) := by decide +kernel
theorem dX6_begin_34 : decode cX6_begin 34 = .ok (.return_, 1) := by decide +kernel
theorem dX6_takeFrom_0 : decode cX6_takeFrom 0 = .ok (.aload_n 0, 1) := by decide +kernel
theorem dX6_takeFrom_1 : decode cX6_takeFrom 1 = .ok (.getfield 12, 3) := by decide +kernel
theorem dX6_takeFrom_4 : decode cX6_takeFrom 4 = .ok (.aload_n 1, 1) := by decide +kernel
theorem dX6_takeFrom_5 : decode cX6_takeFrom 5 = .ok (.getfield 12, 3) := by decide +kernel
theorem dX6_takeFrom_8 : decode cX6_takeFrom 8 = .ok (.invokevirtual 46, 3) := by decide +kernel
theorem dX6_takeFrom_11 : decode cX6_takeFrom 11 = .ok (.aload_n 0, 1) := by decide +kernel
theorem dX6_takeFrom_12 : decode cX6_takeFrom 12 = .ok (.getfield 21, 3) := by decide +kernel
theorem dX6_takeFrom_15 : decode cX6_takeFrom 15 = .ok (.aload_n 1, 1) := by decide +kernel
theorem dX6_takeFrom_16 : decode cX6_takeFrom 16 = .ok (.getfield 21, 3) := by decide +kernel
theorem dX6_takeFrom_19 : decode cX6_takeFrom 19 = .ok (.invokevirtual 50, 3) := by decide +kernel
theorem dX6_takeFrom_22 : decode cX6_takeFrom 22 = .ok (.aload_n 1, 1) := by decide +kernel
theorem dX6_takeFrom_23 : decode cX6_takeFrom 23 = .ok (.getfield 25, 3) := by decide +kernel
theorem dX6_takeFrom_26 : decode cX6_takeFrom 26 = .ok (.iconst 0, 1) := by decide +kernel
theorem dX6_takeFrom_27 : decode cX6_takeFrom 27 = .ok (.aload_n 0, 1) := by decide +kernel
theorem dX6_takeFrom_28 : decode cX6_takeFrom 28 = .ok (.getfield 25, 3) := by decide +kernel
theorem dX6_takeFrom_31 : decode cX6_takeFrom 31 = .ok (.iconst 0, 1) := by decide +kernel
theorem dX6_takeFrom_32 : decode cX6_takeFrom 32 = .ok (.iconst 3, 1) := by decide +kernel
theorem dX6_takeFrom_33 : decode cX6_takeFrom 33 = .ok (.invokestatic 53, 3) := by decide +kernel
theorem dX6_takeFrom_36 : decode cX6_takeFrom 36 = .ok (.aload_n 0, 1) := by decide +kernel
theorem dX6_takeFrom_37 : decode cX6_takeFrom 37 = .ok (.aload_n 1, 1) := by decide +kernel
theorem dX6_takeFrom_38 : decode cX6_takeFrom 38 = .ok (.getfield 33, 3) := by decide +kernel
theorem dX6_takeFrom_41 : decode cX6_takeFrom 41 = .ok (.putfield 33, 3) := by decide +kernel
theorem dX6_takeFrom_44 : decode cX6_takeFrom 44 = .ok (.aload_n 0, 1) := by decide +kernel
theorem dX6_takeFrom_45 : decode cX6_takeFrom 45 = .ok (.aload_n 1, 1) := by decide +kernel
theorem dX6_takeFrom_46 : decode cX6_takeFrom 46 = .ok (.getfield 37, 3) := by decide +kernel
theorem dX6_takeFrom_49 : decode cX6_takeFrom 49 = .ok (.putfield 37, 3) := by decide +kernel
theorem dX6_takeFrom_52 : decode cX6_takeFrom 52 = .ok (.aload_n 0, 1) := by decide +kernel
theorem dX6_takeFrom_53 : decode cX6_takeFrom 53 = .ok (.aload_n 1, 1) := by decide +kernel
theorem dX6_takeFrom_54 : decode cX6_takeFrom 54 = .ok (.getfield 40, 3) := by decide +kernel
theorem dX6_takeFrom_57 : decode cX6_takeFrom 57 = .ok (.putfield 40, 3) := by decide +kernel
theorem dX6_takeFrom_60 : decode cX6_takeFrom 60 = .ok (.aload_n 0, 1) := by decide +kernel
theorem dX6_takeFrom_61 : decode cX6_takeFrom 61 = .ok (.aload_n 1, 1) := by decide +kernel
theorem dX6_takeFrom_62 : decode cX6_takeFrom 62 = .ok (.getfield 43, 3) := by decide +kernel
theorem dX6_takeFrom_65 : decode cX6_takeFrom 65 = .ok (.putfield 43, 3) := by decide +kernel
theorem dX6_takeFrom_68 : decode cX6_takeFrom 68 = .ok (.return_, 1) := by decide +kernel
theorem dX6_isWatched_0 : decode cX6_isWatched 0 = .ok (.iload_n 1, 1) := by decide +kernel
theorem dX6_isWatched_1 : decode cX6_isWatched 1 = .ok (.invokestatic 59, 3) := by decide +kernel
theorem dX6_isWatched_4 : decode cX6_isWatched 4 = .ok (.ifCond .eq 19, 3) := by decide +kernel
theorem dX6_isWatched_7 : decode cX6_isWatched 7 = .ok (.aload_n 0, 1) := by decide +kernel
theorem dX6_isWatched_8 : decode cX6_isWatched 8 = .ok (.getfield 37, 3) := by decide +kernel
theorem dX6_isWatched_11 : decode cX6_isWatched 11 = .ok (.iload_n 1, 1) := by decide +kernel
theorem dX6_isWatched_12 : decode cX6_isWatched 12 = .ok (.ishr, 1) := by decide +kernel
theorem dX6_isWatched_13 : decode cX6_isWatched 13 = .ok (.iconst 1, 1) := by decide +kernel
theorem dX6_isWatched_14 : decode cX6_isWatched 14 = .ok (.iand, 1) := by decide +kernel
theorem dX6_isWatched_15 : decode cX6_isWatched 15 = .ok (.iconst 1, 1) := by decide +kernel
theorem dX6_isWatched_16 : decode cX6_isWatched 16 = .ok (.if_icmp .ne 7, 3) := by decide +kernel
theorem dX6_isWatched_19 : decode cX6_isWatched 19 = .ok (.iconst 1, 1) := by decide +kernel
theorem dX6_isWatched_20 : decode cX6_isWatched 20 = .ok (.goto 4, 3) := by decide +kernel
theorem dX6_isWatched_23 : decode cX6_isWatched 23 = .ok (.iconst 0, 1) := by decide +kernel
theorem dX6_isWatched_24 : decode cX6_isWatched 24 = .ok (.ireturn, 1) := by decide +kernel
theorem dX6_turnWatch_0 : decode cX6_turnWatch 0 = .ok (.aload_n 0, 1) := by decide +kernel
theorem dX6_turnWatch_1 : decode cX6_turnWatch 1 = .ok (.dup, 1) := by decide +kernel
theorem dX6_turnWatch_2 : decode cX6_turnWatch 2 = .ok (.getfield 37, 3) := by decide +kernel
theorem dX6_turnWatch_5 : decode cX6_turnWatch 5 = .ok (.iconst 1, 1) := by decide +kernel
theorem dX6_turnWatch_6 : decode cX6_turnWatch 6 = .ok (.iload_n 1, 1) := by decide +kernel
theorem dX6_turnWatch_7 : decode cX6_turnWatch 7 = .ok (.ishl, 1) := by decide +kernel
theorem dX6_turnWatch_8 : decode cX6_turnWatch 8 = .ok (.ixor, 1) := by decide +kernel
theorem dX6_turnWatch_9 : decode cX6_turnWatch 9 = .ok (.putfield 37, 3) := by decide +kernel
theorem dX6_turnWatch_12 : decode cX6_turnWatch 12 = .ok (.iconst 1, 1) := by decide +kernel
theorem dX6_turnWatch_13 : decode cX6_turnWatch 13 = .ok (.ireturn, 1) := by decide +kernel
theorem dX6_allows_0 : decode cX6_allows 0 = .ok (.iload_n 1, 1) := by decide +kernel
theorem dX6_allows_1 : decode cX6_allows 1 = .ok (.iconst 2, 1) := by decide +kernel
theorem dX6_allows_2 : decode cX6_allows 2 = .ok (.if_icmp .ne 13, 3) := by decide +kernel
theorem dX6_allows_5 : decode cX6_allows 5 = .ok (.aload_n 0, 1) := by decide +kernel
theorem dX6_allows_6 : decode cX6_allows 6 = .ok (.getfield 12, 3) := by decide +kernel
theorem dX6_allows_9 : decode cX6_allows 9 = .ok (.getfield 63, 3) := by decide +kernel
theorem dX6_allows_12 : decode cX6_allows 12 = .ok (.ifCond .le 7, 3) := by decide +kernel
theorem dX6_allows_15 : decode cX6_allows 15 = .ok (.iconst 1, 1) := by decide +kernel
theorem dX6_allows_16 : decode cX6_allows 16 = .ok (.goto 4, 3) := by decide +kernel
theorem dX6_allows_19 : decode cX6_allows 19 = .ok (.iconst 0, 1) := by decide +kernel
theorem dX6_allows_20 : decode cX6_allows 20 = .ok (.ireturn, 1) := by decide +kernel
theorem dX6_perform_0 : decode cX6_perform 0 = .ok (.aload_n 0, 1) := by decide +kernel
theorem dX6_perform_1 : decode cX6_perform 1 = .ok (.iload_n 1, 1) := by decide +kernel
theorem dX6_perform_2 : decode cX6_perform 2 = .ok (.invokevirtual 66, 3) := by decide +kernel
theorem dX6_perform_5 : decode cX6_perform 5 = .ok (.ifCond .ne 6, 3) := by decide +kernel
theorem dX6_perform_8 : decode cX6_perform 8 = .ok (.bipush (-3), 2) := by decide +kernel
theorem dX6_perform_10 : decode cX6_perform 10 = .ok (.ireturn, 1) := by decide +kernel
theorem dX6_perform_11 : decode cX6_perform 11 = .ok (.aload_n 0, 1) := by decide +kernel
theorem dX6_perform_12 : decode cX6_perform 12 = .ok (.getfield 12, 3) := by decide +kernel
theorem dX6_perform_15 : decode cX6_perform 15 = .ok (.getfield 69, 3) := by decide +kernel
theorem dX6_perform_18 : decode cX6_perform 18 = .ok (.ifCond .eq 5, 3) := by decide +kernel
theorem dX6_perform_21 : decode cX6_perform 21 = .ok (.iconst 3, 1) := by decide +kernel
theorem dX6_perform_22 : decode cX6_perform 22 = .ok (.ireturn, 1) := by decide +kernel
theorem dX6_perform_23 : decode cX6_perform 23 = .ok (.aload_n 0, 1) := by decide +kernel
theorem dX6_perform_24 : decode cX6_perform 24 = .ok (.getfield 12, 3) := by decide +kernel
theorem dX6_perform_27 : decode cX6_perform 27 = .ok (.getfield 63, 3) := by decide +kernel
theorem dX6_perform_30 : decode cX6_perform 30 = .ok (.istore_n 3, 1) := by decide +kernel
theorem dX6_perform_31 : decode cX6_perform 31 = .ok (.iconst 0, 1) := by decide +kernel
theorem dX6_perform_32 : decode cX6_perform 32 = .ok (.istore 4, 2) := by decide +kernel
theorem dX6_perform_34 : decode cX6_perform 34 = .ok (.iload 4, 2) := by decide +kernel
theorem dX6_perform_36 : decode cX6_perform 36 = .ok (.bipush 99, 2) := by decide +kernel
theorem dX6_perform_38 : decode cX6_perform 38 = .ok (.if_icmp .ge 36, 3) := by decide +kernel
theorem dX6_perform_41 : decode cX6_perform 41 = .ok (.aload_n 0, 1) := by decide +kernel
theorem dX6_perform_42 : decode cX6_perform 42 = .ok (.aload_n 2, 1) := by decide +kernel
theorem dX6_perform_43 : decode cX6_perform 43 = .ok (.invokevirtual 73, 3) := by decide +kernel
theorem dX6_perform_46 : decode cX6_perform 46 = .ok (.istore 5, 2) := by decide +kernel
theorem dX6_perform_48 : decode cX6_perform 48 = .ok (.iload 5, 2) := by decide +kernel
theorem dX6_perform_50 : decode cX6_perform 50 = .ok (.iconst (-1), 1) := by decide +kernel
theorem dX6_perform_51 : decode cX6_perform 51 = .ok (.if_icmp .eq 6, 3) := by decide +kernel
theorem dX6_perform_54 : decode cX6_perform 54 = .ok (.iload 5, 2) := by decide +kernel
theorem dX6_perform_56 : decode cX6_perform 56 = .ok (.ireturn, 1) := by decide +kernel
theorem dX6_perform_57 : decode cX6_perform 57 = .ok (.aload_n 0, 1) := by decide +kernel
theorem dX6_perform_58 : decode cX6_perform 58 = .ok (.iload_n 1, 1) := by decide +kernel
theorem dX6_perform_59 : decode cX6_perform 59 = .ok (.iload_n 3, 1) := by decide +kernel
theorem dX6_perform_60 : decode cX6_perform 60 = .ok (.invokevirtual 77, 3) := by decide +kernel
theorem dX6_perform_63 : decode cX6_perform 63 = .ok (.ifCond .eq 5, 3) := by decide +kernel
theorem dX6_perform_66 : decode cX6_perform 66 = .ok (.iconst 0, 1) := by decide +kernel
theorem dX6_perform_67 : decode cX6_perform 67 = .ok (.ireturn, 1) := by decide +kernel
theorem dX6_perform_68 : decode cX6_perform 68 = .ok (.iinc 4 1, 3) := by decide +kernel
theorem dX6_perform_71 : decode cX6_perform 71 = .ok (.goto (-37), 3) := by decide +kernel
theorem dX6_perform_74 : decode cX6_perform 74 = .ok (.iconst 5, 1) := by decide +kernel
theorem dX6_perform_75 : decode cX6_perform 75 = .ok (.ireturn, 1) := by decide +kernel
theorem dX6_isDone_0 : decode cX6_isDone 0 = .ok (.iload_n 1, 1) := by decide +kernel
theorem dX6_isDone_1 : decode cX6_isDone 1 = .ok (.tableswitch 63 0 2 #[27, 29, 46], 27) := by decide +kernel
theorem dX6_isDone_28 : decode cX6_isDone 28 = .ok (.iconst 1, 1) := by decide +kernel
theorem dX6_isDone_29 : decode cX6_isDone 29 = .ok (.ireturn, 1) := by decide +kernel
theorem dX6_isDone_30 : decode cX6_isDone 30 = .ok (.aload_n 0, 1) := by decide +kernel
theorem dX6_isDone_31 : decode cX6_isDone 31 = .ok (.getfield 12, 3) := by decide +kernel
theorem dX6_isDone_34 : decode cX6_isDone 34 = .ok (.getfield 63, 3) := by decide +kernel
theorem dX6_isDone_37 : decode cX6_isDone 37 = .ok (.iload_n 2, 1) := by decide +kernel
theorem dX6_isDone_38 : decode cX6_isDone 38 = .ok (.if_icmp .gt 7, 3) := by decide +kernel
theorem dX6_isDone_41 : decode cX6_isDone 41 = .ok (.iconst 1, 1) := by decide +kernel
theorem dX6_isDone_42 : decode cX6_isDone 42 = .ok (.goto 4, 3) := by decide +kernel
theorem dX6_isDone_45 : decode cX6_isDone 45 = .ok (.iconst 0, 1) := by decide +kernel
theorem dX6_isDone_46 : decode cX6_isDone 46 = .ok (.ireturn, 1) := by decide +kernel
theorem dX6_isDone_47 : decode cX6_isDone 47 = .ok (.aload_n 0, 1) := by decide +kernel
theorem dX6_isDone_48 : decode cX6_isDone 48 = .ok (.getfield 12, 3) := by decide +kernel
theorem dX6_isDone_51 : decode cX6_isDone 51 = .ok (.getfield 63, 3) := by decide +kernel
theorem dX6_isDone_54 : decode cX6_isDone 54 = .ok (.iload_n 2, 1) := by decide +kernel
theorem dX6_isDone_55 : decode cX6_isDone 55 = .ok (.if_icmp .ge 7, 3) := by decide +kernel
theorem dX6_isDone_58 : decode cX6_isDone 58 = .ok (.iconst 1, 1) := by decide +kernel
theorem dX6_isDone_59 : decode cX6_isDone 59 = .ok (.goto 4, 3) := by decide +kernel
theorem dX6_isDone_62 : decode cX6_isDone 62 = .ok (.iconst 0, 1) := by decide +kernel
theorem dX6_isDone_63 : decode cX6_isDone 63 = .ok (.ireturn, 1) := by decide +kernel
theorem dX6_isDone_64 : decode cX6_isDone 64 = .ok (.iconst 0, 1) := by decide +kernel
theorem dX6_isDone_65 : decode cX6_isDone 65 = .ok (.ireturn, 1) := by decide +kernel
theorem dX6_reasonAfterStep_0 : decode cX6_reasonAfterStep 0 = .ok (.aload_n 0, 1) := by decide +kernel
theorem dX6_reasonAfterStep_1 : decode cX6_reasonAfterStep 1 = .ok (.getfield 12, 3) := by decide +kernel
theorem dX6_reasonAfterStep_4 : decode cX6_reasonAfterStep 4 = .ok (.getfield 81, 3) := by decide +kernel
theorem dX6_reasonAfterStep_7 : decode cX6_reasonAfterStep 7 = .ok (.istore_n 2, 1) := by decide +kernel
theorem dX6_reasonAfterStep_8 : decode cX6_reasonAfterStep 8 = .ok (.aload_n 1, 1) := by decide +kernel
theorem dX6_reasonAfterStep_9 : decode cX6_reasonAfterStep 9 = .ok (.iload_n 2, 1) := by decide +kernel
theorem dX6_reasonAfterStep_10 : decode cX6_reasonAfterStep 10 = .ok (.invokevirtual 84, 3) := by decide +kernel
theorem dX6_reasonAfterStep_13 : decode cX6_reasonAfterStep 13 = .ok (.istore_n 3, 1) := by decide +kernel
theorem dX6_reasonAfterStep_14 : decode cX6_reasonAfterStep 14 = .ok (.iload_n 3, 1) := by decide +kernel
theorem dX6_reasonAfterStep_15 : decode cX6_reasonAfterStep 15 = .ok (.invokestatic 59, 3) := by decide +kernel
theorem dX6_reasonAfterStep_18 : decode cX6_reasonAfterStep 18 = .ok (.ifCond .eq 15, 3) := by decide +kernel
theorem dX6_reasonAfterStep_21 : decode cX6_reasonAfterStep 21 = .ok (.aload_n 0, 1) := by decide +kernel
theorem dX6_reasonAfterStep_22 : decode cX6_reasonAfterStep 22 = .ok (.getfield 12, 3) := by decide +kernel
theorem dX6_reasonAfterStep_25 : decode cX6_reasonAfterStep 25 = .ok (.getfield 90, 3) := by decide +kernel
theorem dX6_reasonAfterStep_28 : decode cX6_reasonAfterStep 28 = .ok (.iload_n 3, 1) := by decide +kernel
theorem dX6_reasonAfterStep_29 : decode cX6_reasonAfterStep 29 = .ok (.iaload, 1) := by decide +kernel
theorem dX6_reasonAfterStep_30 : decode cX6_reasonAfterStep 30 = .ok (.goto 4, 3) := by decide +kernel
theorem dX6_reasonAfterStep_33 : decode cX6_reasonAfterStep 33 = .ok (.iconst 0, 1) := by decide +kernel
theorem dX6_reasonAfterStep_34 : decode cX6_reasonAfterStep 34 = .ok (.istore 4, 2) := by decide +kernel
theorem dX6_reasonAfterStep_36 : decode cX6_reasonAfterStep 36 = .ok (.aload_n 0, 1) := by decide +kernel
theorem dX6_reasonAfterStep_37 : decode cX6_reasonAfterStep 37 = .ok (.getfield 12, 3) := by decide +kernel
theorem dX6_reasonAfterStep_40 : decode cX6_reasonAfterStep 40 = .ok (.aload_n 1, 1) := by decide +kernel
theorem dX6_reasonAfterStep_41 : decode cX6_reasonAfterStep 41 = .ok (.invokevirtual 93, 3) := by decide +kernel
theorem dX6_reasonAfterStep_44 : decode cX6_reasonAfterStep 44 = .ok (.ifCond .ne 5, 3) := by decide +kernel
theorem dX6_reasonAfterStep_47 : decode cX6_reasonAfterStep 47 = .ok (.iconst 4, 1) := by decide +kernel
theorem dX6_reasonAfterStep_48 : decode cX6_reasonAfterStep 48 = .ok (.ireturn, 1) := by decide +kernel
theorem dX6_reasonAfterStep_49 : decode cX6_reasonAfterStep 49 = .ok (.aload_n 0, 1) := by decide +kernel
theorem dX6_reasonAfterStep_50 : decode cX6_reasonAfterStep 50 = .ok (.iload_n 2, 1) := by decide +kernel
theorem dX6_reasonAfterStep_51 : decode cX6_reasonAfterStep 51 = .ok (.aload_n 1, 1) := by decide +kernel
theorem dX6_reasonAfterStep_52 : decode cX6_reasonAfterStep 52 = .ok (.invokevirtual 97, 3) := by decide +kernel
theorem dX6_reasonAfterStep_55 : decode cX6_reasonAfterStep 55 = .ok (.aload_n 0, 1) := by decide +kernel
theorem dX6_reasonAfterStep_56 : decode cX6_reasonAfterStep 56 = .ok (.getfield 12, 3) := by decide +kernel
theorem dX6_reasonAfterStep_59 : decode cX6_reasonAfterStep 59 = .ok (.getfield 69, 3) := by decide +kernel
theorem dX6_reasonAfterStep_62 : decode cX6_reasonAfterStep 62 = .ok (.ifCond .eq 5, 3) := by decide +kernel
theorem dX6_reasonAfterStep_65 : decode cX6_reasonAfterStep 65 = .ok (.iconst 3, 1) := by decide +kernel
theorem dX6_reasonAfterStep_66 : decode cX6_reasonAfterStep 66 = .ok (.ireturn, 1) := by decide +kernel
theorem dX6_reasonAfterStep_67 : decode cX6_reasonAfterStep 67 = .ok (.aload_n 0, 1) := by decide +kernel
theorem dX6_reasonAfterStep_68 : decode cX6_reasonAfterStep 68 = .ok (.iload_n 3, 1) := by decide +kernel
theorem dX6_reasonAfterStep_69 : decode cX6_reasonAfterStep 69 = .ok (.invokevirtual 101, 3) := by decide +kernel
theorem dX6_reasonAfterStep_72 : decode cX6_reasonAfterStep 72 = .ok (.ifCond .eq 19, 3) := by decide +kernel
theorem dX6_reasonAfterStep_75 : decode cX6_reasonAfterStep 75 = .ok (.aload_n 0, 1) := by decide +kernel
theorem dX6_reasonAfterStep_76 : decode cX6_reasonAfterStep 76 = .ok (.getfield 12, 3) := by decide +kernel
theorem dX6_reasonAfterStep_79 : decode cX6_reasonAfterStep 79 = .ok (.getfield 90, 3) := by decide +kernel
theorem dX6_reasonAfterStep_82 : decode cX6_reasonAfterStep 82 = .ok (.iload_n 3, 1) := by decide +kernel
theorem dX6_reasonAfterStep_83 : decode cX6_reasonAfterStep 83 = .ok (.iaload, 1) := by decide +kernel
theorem dX6_reasonAfterStep_84 : decode cX6_reasonAfterStep 84 = .ok (.iload 4, 2) := by decide +kernel
theorem dX6_reasonAfterStep_86 : decode cX6_reasonAfterStep 86 = .ok (.if_icmp .eq 5, 3) := by decide +kernel
theorem dX6_reasonAfterStep_89 : decode cX6_reasonAfterStep 89 = .ok (.iconst 2, 1) := by decide +kernel
theorem dX6_reasonAfterStep_90 : decode cX6_reasonAfterStep 90 = .ok (.ireturn, 1) := by decide +kernel
theorem dX6_reasonAfterStep_91 : decode cX6_reasonAfterStep 91 = .ok (.aload_n 0, 1) := by decide +kernel
theorem dX6_reasonAfterStep_92 : decode cX6_reasonAfterStep 92 = .ok (.getfield 21, 3) := by decide +kernel
theorem dX6_reasonAfterStep_95 : decode cX6_reasonAfterStep 95 = .ok (.aload_n 0, 1) := by decide +kernel
theorem dX6_reasonAfterStep_96 : decode cX6_reasonAfterStep 96 = .ok (.getfield 12, 3) := by decide +kernel
theorem dX6_reasonAfterStep_99 : decode cX6_reasonAfterStep 99 = .ok (.invokevirtual 104, 3) := by decide +kernel
theorem dX6_reasonAfterStep_102 : decode cX6_reasonAfterStep 102 = .ok (.ifCond .eq 7, 3) := by decide +kernel
theorem dX6_reasonAfterStep_105 : decode cX6_reasonAfterStep 105 = .ok (.iconst 1, 1) := by decide +kernel
theorem dX6_reasonAfterStep_106 : decode cX6_reasonAfterStep 106 = .ok (.goto 4, 3) := by decide +kernel
theorem dX6_reasonAfterStep_109 : decode cX6_reasonAfterStep 109 = .ok (.iconst (-1), 1) := by decide +kernel
theorem dX6_reasonAfterStep_110 : decode cX6_reasonAfterStep 110 = .ok (.ireturn, 1) := by decide +kernel
theorem dX6_charge_0 : decode cX6_charge 0 = .ok (.aload_n 0, 1) := by decide +kernel
theorem dX6_charge_1 : decode cX6_charge 1 = .ok (.dup, 1) := by decide +kernel
theorem dX6_charge_2 : decode cX6_charge 2 = .ok (.getfield 43, 3) := by decide +kernel
theorem dX6_charge_5 : decode cX6_charge 5 = .ok (.iconst 1, 1) := by decide +kernel
theorem dX6_charge_6 : decode cX6_charge 6 = .ok (.iadd, 1) := by decide +kernel
theorem dX6_charge_7 : decode cX6_charge 7 = .ok (.putfield 43, 3) := by decide +kernel
theorem dX6_charge_10 : decode cX6_charge 10 = .ok (.aload_n 0, 1) := by decide +kernel
theorem dX6_charge_11 : decode cX6_charge 11 = .ok (.dup, 1) := by decide +kernel
theorem dX6_charge_12 : decode cX6_charge 12 = .ok (.getfield 40, 3) := by decide +kernel
theorem dX6_charge_15 : decode cX6_charge 15 = .ok (.aload_n 0, 1) := by decide +kernel
theorem dX6_charge_16 : decode cX6_charge 16 = .ok (.getfield 37, 3) := by decide +kernel
theorem dX6_charge_19 : decode cX6_charge 19 = .ok (.invokestatic 108, 3) := by decide +kernel
theorem dX6_charge_22 : decode cX6_charge 22 = .ok (.iconst 2, 1) := by decide +kernel
theorem dX6_charge_23 : decode cX6_charge 23 = .ok (.if_icmp .le 8, 3) := by decide +kernel
theorem dX6_charge_26 : decode cX6_charge 26 = .ok (.bipush 10, 2) := by decide +kernel
theorem dX6_charge_28 : decode cX6_charge 28 = .ok (.goto 4, 3) := by decide +kernel
theorem dX6_charge_31 : decode cX6_charge 31 = .ok (.iconst 1, 1) := by decide +kernel
theorem dX6_charge_32 : decode cX6_charge 32 = .ok (.iadd, 1) := by decide +kernel
theorem dX6_charge_33 : decode cX6_charge 33 = .ok (.putfield 40, 3) := by decide +kernel
theorem dX6_charge_36 : decode cX6_charge 36 = .ok (.aload_n 0, 1) := by decide +kernel
theorem dX6_charge_37 : decode cX6_charge 37 = .ok (.getfield 21, 3) := by decide +kernel
theorem dX6_charge_40 : decode cX6_charge 40 = .ok (.iload_n 1, 1) := by decide +kernel
theorem dX6_charge_41 : decode cX6_charge 41 = .ok (.invokevirtual 113, 3) := by decide +kernel
theorem dX6_charge_44 : decode cX6_charge 44 = .ok (.ifCond .eq 23, 3) := by decide +kernel
theorem dX6_charge_47 : decode cX6_charge 47 = .ok (.aload_n 0, 1) := by decide +kernel
theorem dX6_charge_48 : decode cX6_charge 48 = .ok (.dup, 1) := by decide +kernel
theorem dX6_charge_49 : decode cX6_charge 49 = .ok (.getfield 40, 3) := by decide +kernel
theorem dX6_charge_52 : decode cX6_charge 52 = .ok (.iconst 3, 1) := by decide +kernel
theorem dX6_charge_53 : decode cX6_charge 53 = .ok (.iadd, 1) := by decide +kernel
theorem dX6_charge_54 : decode cX6_charge 54 = .ok (.putfield 40, 3) := by decide +kernel
theorem dX6_charge_57 : decode cX6_charge 57 = .ok (.aload_n 0, 1) := by decide +kernel
theorem dX6_charge_58 : decode cX6_charge 58 = .ok (.aload_n 2, 1) := by decide +kernel
theorem dX6_charge_59 : decode cX6_charge 59 = .ok (.getfield 116, 3) := by decide +kernel
theorem dX6_charge_62 : decode cX6_charge 62 = .ok (.iload_n 1, 1) := by decide +kernel
theorem dX6_charge_63 : decode cX6_charge 63 = .ok (.iaload, 1) := by decide +kernel
theorem dX6_charge_64 : decode cX6_charge 64 = .ok (.invokevirtual 119, 3) := by decide +kernel
theorem dX6_charge_67 : decode cX6_charge 67 = .ok (.return_, 1) := by decide +kernel
theorem dX6_keepCopy_0 : decode cX6_keepCopy 0 = .ok (.iconst 0, 1) := by decide +kernel
theorem dX6_keepCopy_1 : decode cX6_keepCopy 1 = .ok (.istore_n 2, 1) := by decide +kernel
theorem dX6_keepCopy_2 : decode cX6_keepCopy 2 = .ok (.iload_n 2, 1) := by decide +kernel
theorem dX6_keepCopy_3 : decode cX6_keepCopy 3 = .ok (.aload_n 0, 1) := by decide +kernel
theorem dX6_keepCopy_4 : decode cX6_keepCopy 4 = .ok (.getfield 33, 3) := by decide +kernel
theorem dX6_keepCopy_7 : decode cX6_keepCopy 7 = .ok (.if_icmp .ge 20, 3) := by decide +kernel
theorem dX6_keepCopy_10 : decode cX6_keepCopy 10 = .ok (.aload_n 0, 1) := by decide +kernel
theorem dX6_keepCopy_11 : decode cX6_keepCopy 11 = .ok (.getfield 25, 3) := by decide +kernel
theorem dX6_keepCopy_14 : decode cX6_keepCopy 14 = .ok (.iload_n 2, 1) := by decide +kernel
theorem dX6_keepCopy_15 : decode cX6_keepCopy 15 = .ok (.iaload, 1) := by decide +kernel
theorem dX6_keepCopy_16 : decode cX6_keepCopy 16 = .ok (.iload_n 1, 1) := by decide +kernel
theorem dX6_keepCopy_17 : decode cX6_keepCopy 17 = .ok (.if_icmp .ne 4, 3) := by decide +kernel
theorem dX6_keepCopy_20 : decode cX6_keepCopy 20 = .ok (.return_, 1) := by decide +kernel
theorem dX6_keepCopy_21 : decode cX6_keepCopy 21 = .ok (.iinc 2 1, 3) := by decide +kernel
theorem dX6_keepCopy_24 : decode cX6_keepCopy 24 = .ok (.goto (-22), 3) := by decide +kernel
theorem dX6_keepCopy_27 : decode cX6_keepCopy 27 = .ok (.aload_n 0, 1) := by decide +kernel
theorem dX6_keepCopy_28 : decode cX6_keepCopy 28 = .ok (.getfield 33, 3) := by decide +kernel
theorem dX6_keepCopy_31 : decode cX6_keepCopy 31 = .ok (.iconst 3, 1) := by decide +kernel
theorem dX6_keepCopy_32 : decode cX6_keepCopy 32 = .ok (.if_icmp .ne 27, 3) := by decide +kernel
theorem dX6_keepCopy_35 : decode cX6_keepCopy 35 = .ok (.aload_n 0, 1) := by decide +kernel
theorem dX6_keepCopy_36 : decode cX6_keepCopy 36 = .ok (.getfield 25, 3) := by decide +kernel
theorem dX6_keepCopy_39 : decode cX6_keepCopy 39 = .ok (.iconst 1, 1) := by decide +kernel
theorem dX6_keepCopy_40 : decode cX6_keepCopy 40 = .ok (.aload_n 0, 1) := by decide +kernel
theorem dX6_keepCopy_41 : decode cX6_keepCopy 41 = .ok (.getfield 25, 3) := by decide +kernel
theorem dX6_keepCopy_44 : decode cX6_keepCopy 44 = .ok (.iconst 0, 1) := by decide +kernel
theorem dX6_keepCopy_45 : decode cX6_keepCopy 45 = .ok (.iconst 2, 1) := by decide +kernel
theorem dX6_keepCopy_46 : decode cX6_keepCopy 46 = .ok (.invokestatic 53, 3) := by decide +kernel
theorem dX6_keepCopy_49 : decode cX6_keepCopy 49 = .ok (.aload_n 0, 1) := by decide +kernel
theorem dX6_keepCopy_50 : decode cX6_keepCopy 50 = .ok (.dup, 1) := by decide +kernel
theorem dX6_keepCopy_51 : decode cX6_keepCopy 51 = .ok (.getfield 33, 3) := by decide +kernel
theorem dX6_keepCopy_54 : decode cX6_keepCopy 54 = .ok (.iconst 1, 1) := by decide +kernel
theorem dX6_keepCopy_55 : decode cX6_keepCopy 55 = .ok (.isub, 1) := by decide +kernel
theorem dX6_keepCopy_56 : decode cX6_keepCopy 56 = .ok (.putfield 33, 3) := by decide +kernel
theorem dX6_keepCopy_59 : decode cX6_keepCopy 59 = .ok (.aload_n 0, 1) := by decide +kernel
theorem dX6_keepCopy_60 : decode cX6_keepCopy 60 = .ok (.getfield 25, 3) := by decide +kernel
theorem dX6_keepCopy_63 : decode cX6_keepCopy 63 = .ok (.aload_n 0, 1) := by decide +kernel
theorem dX6_keepCopy_64 : decode cX6_keepCopy 64 = .ok (.getfield 33, 3) := by decide +kernel
theorem dX6_keepCopy_67 : decode cX6_keepCopy 67 = .ok (.iload_n 1, 1) := by decide +kernel
theorem dX6_keepCopy_68 : decode cX6_keepCopy 68 = .ok (.iastore, 1) := by decide +kernel
theorem dX6_keepCopy_69 : decode cX6_keepCopy 69 = .ok (.aload_n 0, 1) := by decide +kernel
theorem dX6_keepCopy_70 : decode cX6_keepCopy 70 = .ok (.dup, 1) := by decide +kernel
theorem dX6_keepCopy_71 : decode cX6_keepCopy 71 = .ok (.getfield 33, 3) := by decide +kernel
theorem dX6_keepCopy_74 : decode cX6_keepCopy 74 = .ok (.iconst 1, 1) := by decide +kernel
theorem dX6_keepCopy_75 : decode cX6_keepCopy 75 = .ok (.iadd, 1) := by decide +kernel
theorem dX6_keepCopy_76 : decode cX6_keepCopy 76 = .ok (.putfield 33, 3) := by decide +kernel
theorem dX6_keepCopy_79 : decode cX6_keepCopy 79 = .ok (.return_, 1) := by decide +kernel
theorem dX7_init_0 : decode cX7_init 0 = .ok (.aload_n 0, 1) := by decide +kernel
theorem dX7_init_1 : decode cX7_init 1 = .ok (.invokespecial 3, 3) := by decide +kernel
theorem dX7_init_4 : decode cX7_init 4 = .ok (.aload_n 0, 1) := by decide +kernel
theorem dX7_init_5 : decode cX7_init 5 = .ok (.new 9, 3) := by decide +kernel
theorem dX7_init_8 : decode cX7_init 8 = .ok (.dup, 1) := by decide +kernel
theorem dX7_init_9 : decode cX7_init 9 = .ok (.invokespecial 11, 3) := by decide +kernel
theorem dX7_init_12 : decode cX7_init 12 = .ok (.putfield 12, 3) := by decide +kernel
theorem dX7_init_15 : decode cX7_init 15 = .ok (.aload_n 0, 1) := by decide +kernel
theorem dX7_init_16 : decode cX7_init 16 = .ok (.bipush 6, 2) := by decide +kernel
theorem dX7_init_18 : decode cX7_init 18 = .ok (.newarray .int, 2) := by decide +kernel
theorem dX7_init_20 : decode cX7_init 20 = .ok (.putfield 18, 3) := by decide +kernel
theorem dX7_init_23 : decode cX7_init 23 = .ok (.aload_n 0, 1) := by decide +kernel
theorem dX7_init_24 : decode cX7_init 24 = .ok (.bipush 6, 2) := by decide +kernel
theorem dX7_init_26 : decode cX7_init 26 = .ok (.newarray .int, 2) := by decide +kernel
theorem dX7_init_28 : decode cX7_init 28 = .ok (.putfield 22, 3) := by decide +kernel
theorem dX7_init_31 : decode cX7_init 31 = .ok (.aload_n 0, 1) := by decide +kernel
theorem dX7_init_32 : decode cX7_init 32 = .ok (.bipush 6, 2) := by decide +kernel
theorem dX7_init_34 : decode cX7_init 34 = .ok (.newarray .int, 2) := by decide +kernel
theorem dX7_init_36 : decode cX7_init 36 = .ok (.putfield 25, 3) := by decide +kernel
theorem dX7_init_39 : decode cX7_init 39 = .ok (.aload_n 0, 1) := by decide +kernel
theorem dX7_init_40 : decode cX7_init 40 = .ok (.sipush 1980, 3) := by decide +kernel
theorem dX7_init_43 : decode cX7_init 43 = .ok (.newarray .int, 2) := by decide +kernel
theorem dX7_init_45 : decode cX7_init 45 = .ok (.putfield 28, 3) := by decide +kernel
theorem dX7_init_48 : decode cX7_init 48 = .ok (.aload_n 0, 1) := by decide +kernel
theorem dX7_init_49 : decode cX7_init 49 = .ok (.bipush 64, 2) := by decide +kernel
theorem dX7_init_51 : decode cX7_init 51 = .ok (.newarray .int, 2) := by decide +kernel
theorem dX7_init_53 : decode cX7_init 53 = .ok (.putfield 31, 3) := by decide +kernel
theorem dX7_init_56 : decode cX7_init 56 = .ok (.return_, 1) := by decide +kernel
theorem dX7_measure_0 : decode cX7_measure 0 = .ok (.aload_n 0, 1) := by decide +kernel
theorem dX7_measure_1 : decode cX7_measure 1 = .ok (.aload_n 1, 1) := by decide +kernel
theorem dX7_measure_2 : decode cX7_measure 2 = .ok (.getfield 34, 3) := by decide +kernel
theorem dX7_measure_5 : decode cX7_measure 5 = .ok (.invokevirtual 40, 3) := by decide +kernel
theorem dX7_measure_8 : decode cX7_measure 8 = .ok (.aload_n 0, 1) := by decide +kernel
theorem dX7_measure_9 : decode cX7_measure 9 = .ok (.aload_n 1, 1) := by decide +kernel
theorem dX7_measure_10 : decode cX7_measure 10 = .ok (.aload_n 2, 1) := by decide +kernel
theorem dX7_measure_11 : decode cX7_measure 11 = .ok (.invokevirtual 44, 3) := by decide +kernel
theorem dX7_measure_14 : decode cX7_measure 14 = .ok (.iconst 0, 1) := by decide +kernel
theorem dX7_measure_15 : decode cX7_measure 15 = .ok (.istore_n 3, 1) := by decide +kernel
theorem dX7_measure_16 : decode cX7_measure 16 = .ok (.iload_n 3, 1) := by decide +kernel
theorem dX7_measure_17 : decode cX7_measure 17 = .ok (.iconst 1, 1) := by decide +kernel
theorem dX7_measure_18 : decode cX7_measure 18 = .ok (.aload_n 0, 1) := by decide +kernel
theorem dX7_measure_19 : decode cX7_measure 19 = .ok (.getfield 48, 3) := by decide +kernel
theorem dX7_measure_22 : decode cX7_measure 22 = .ok (.ishl, 1) := by decide +kernel
theorem dX7_measure_23 : decode cX7_measure 23 = .ok (.if_icmp .ge 20, 3) := by decide +kernel
theorem dX7_measure_26 : decode cX7_measure 26 = .ok (.aload_n 0, 1) := by decide +kernel
theorem dX7_measure_27 : decode cX7_measure 27 = .ok (.getfield 31, 3) := by decide +kernel
theorem dX7_measure_30 : decode cX7_measure 30 = .ok (.iload_n 3, 1) := by decide +kernel
theorem dX7_measure_31 : decode cX7_measure 31 = .ok (.aload_n 0, 1) := by decide +kernel
theorem dX7_measure_32 : decode cX7_measure 32 = .ok (.iload_n 3, 1) := by decide +kernel
theorem dX7_measure_33 : decode cX7_measure 33 = .ok (.invokevirtual 52, 3) := by decide +kernel
theorem dX7_measure_36 : decode cX7_measure 36 = .ok (.iastore, 1) := by decide +kernel
theorem dX7_measure_37 : decode cX7_measure 37 = .ok (.iinc 3 1, 3) := by decide +kernel
theorem dX7_measure_40 : decode cX7_measure 40 = .ok (.goto (-24), 3) := by decide +kernel
theorem dX7_measure_43 : decode cX7_measure 43 = .ok (.return_, 1) := by decide +kernel
theorem dX7_list_0 : decode cX7_list 0 = .ok (.aload_n 0, 1) := by decide +kernel
theorem dX7_list_1 : decode cX7_list 1 = .ok (.iconst 0, 1) := by decide +kernel
theorem dX7_list_2 : decode cX7_list 2 = .ok (.putfield 48, 3) := by decide +kernel
theorem dX7_list_5 : decode cX7_list 5 = .ok (.iconst 0, 1) := by decide +kernel
theorem dX7_list_6 : decode cX7_list 6 = .ok (.istore_n 2, 1) := by decide +kernel
theorem dX7_list_7 : decode cX7_list 7 = .ok (.iload_n 2, 1) := by decide +kernel
theorem dX7_list_8 : decode cX7_list 8 = .ok (.bipush 16, 2) := by decide +kernel
theorem dX7_list_10 : decode cX7_list 10 = .ok (.if_icmp .ge 61, 3) := by decide +kernel
theorem dX7_list_13 : decode cX7_list 13 = .ok (.aload_n 0, 1) := by decide +kernel
theorem dX7_list_14 : decode cX7_list 14 = .ok (.getfield 48, 3) := by decide +kernel
theorem dX7_list_17 : decode cX7_list 17 = .ok (.bipush 6, 2) := by decide +kernel
theorem dX7_list_19 : decode cX7_list 19 = .ok (.if_icmp .ge 52, 3) := by decide +kernel
theorem dX7_list_22 : decode cX7_list 22 = .ok (.aload_n 1, 1) := by decide +kernel
theorem dX7_list_23 : decode cX7_list 23 = .ok (.iload_n 2, 1) := by decide +kernel
theorem dX7_list_24 : decode cX7_list 24 = .ok (.invokevirtual 56, 3) := by decide +kernel
theorem dX7_list_27 : decode cX7_list 27 = .ok (.ifCond .eq 38, 3) := by decide +kernel
theorem dX7_list_30 : decode cX7_list 30 = .ok (.aload_n 0, 1) := by decide +kernel
theorem dX7_list_31 : decode cX7_list 31 = .ok (.getfield 18, 3) := by decide +kernel
theorem dX7_list_34 : decode cX7_list 34 = .ok (.aload_n 0, 1) := by decide +kernel
theorem dX7_list_35 : decode cX7_list 35 = .ok (.getfield 48, 3) := by decide +kernel
theorem dX7_list_38 : decode cX7_list 38 = .ok (.iload_n 2, 1) := by decide +kernel
theorem dX7_list_39 : decode cX7_list 39 = .ok (.iastore, 1) := by decide +kernel
theorem dX7_list_40 : decode cX7_list 40 = .ok (.aload_n 0, 1) := by decide +kernel
theorem dX7_list_41 : decode cX7_list 41 = .ok (.getfield 22, 3) := by decide +kernel
theorem dX7_list_44 : decode cX7_list 44 = .ok (.aload_n 0, 1) := by decide +kernel
theorem dX7_list_45 : decode cX7_list 45 = .ok (.getfield 48, 3) := by decide +kernel
theorem dX7_list_48 : decode cX7_list 48 = .ok (.aload_n 1, 1) := by decide +kernel
theorem dX7_list_49 : decode cX7_list 49 = .ok (.iload_n 2, 1) := by decide +kernel
theorem dX7_list_50 : decode cX7_list 50 = .ok (.iconst 4, 1) := by decide +kernel
theorem dX7_list_51 : decode cX7_list 51 = .ok (.invokevirtual 62, 3) := by decide +kernel
theorem dX7_list_54 : decode cX7_list 54 = .ok (.iastore, 1) := by decide +kernel
theorem dX7_list_55 : decode cX7_list 55 = .ok (.aload_n 0, 1) := by decide +kernel
theorem dX7_list_56 : decode cX7_list 56 = .ok (.dup, 1) := by decide +kernel
theorem dX7_list_57 : decode cX7_list 57 = .ok (.getfield 48, 3) := by decide +kernel
theorem dX7_list_60 : decode cX7_list 60 = .ok (.iconst 1, 1) := by decide +kernel
theorem dX7_list_61 : decode cX7_list 61 = .ok (.iadd, 1) := by decide +kernel
theorem dX7_list_62 : decode cX7_list 62 = .ok (.putfield 48, 3) := by decide +kernel
theorem dX7_list_65 : decode cX7_list 65 = .ok (.iinc 2 1, 3) := by decide +kernel
theorem dX7_list_68 : decode cX7_list 68 = .ok (.goto (-61), 3) := by decide +kernel
theorem dX7_list_71 : decode cX7_list 71 = .ok (.return_, 1) := by decide +kernel
theorem dX7_follow_0 : decode cX7_follow 0 = .ok (.aload_n 0, 1) := by decide +kernel
theorem dX7_follow_1 : decode cX7_follow 1 = .ok (.getfield 12, 3) := by decide +kernel
theorem dX7_follow_4 : decode cX7_follow 4 = .ok (.aload_n 1, 1) := by decide +kernel
theorem dX7_follow_5 : decode cX7_follow 5 = .ok (.getfield 66, 3) := by decide +kernel
theorem dX7_follow_8 : decode cX7_follow 8 = .ok (.invokevirtual 67, 3) := by decide +kernel
theorem dX7_follow_11 : decode cX7_follow 11 = .ok (.aload_n 0, 1) := by decide +kernel
theorem dX7_follow_12 : decode cX7_follow 12 = .ok (.iconst 0, 1) := by decide +kernel
theorem dX7_follow_13 : decode cX7_follow 13 = .ok (.putfield 71, 3) := by decide +kernel
theorem dX7_follow_16 : decode cX7_follow 16 = .ok (.iconst 0, 1) := by decide +kernel
theorem dX7_follow_17 : decode cX7_follow 17 = .ok (.istore_n 3, 1) := by decide +kernel
theorem dX7_follow_18 : decode cX7_follow 18 = .ok (.iload_n 3, 1) := by decide +kernel
theorem dX7_follow_19 : decode cX7_follow 19 = .ok (.sipush 1980, 3) := by decide +kernel
theorem dX7_follow_22 : decode cX7_follow 22 = .ok (.if_icmp .ge 96, 3) := by decide +kernel
theorem dX7_follow_25 : decode cX7_follow 25 = .ok (.aload_n 0, 1) := by decide +kernel
theorem dX7_follow_26 : decode cX7_follow 26 = .ok (.getfield 12, 3) := by decide +kernel
theorem dX7_follow_29 : decode cX7_follow 29 = .ok (.getfield 74, 3) := by decide +kernel
theorem dX7_follow_32 : decode cX7_follow 32 = .ok (.ifCond .ne 86, 3) := by decide +kernel
theorem dX7_follow_35 : decode cX7_follow 35 = .ok (.aload_n 0, 1) := by decide +kernel
theorem dX7_follow_36 : decode cX7_follow 36 = .ok (.getfield 12, 3) := by decide +kernel
theorem dX7_follow_39 : decode cX7_follow 39 = .ok (.aload_n 2, 1) := by decide +kernel
theorem dX7_follow_40 : decode cX7_follow 40 = .ok (.invokevirtual 78, 3) := by decide +kernel
theorem dX7_follow_43 : decode cX7_follow 43 = .ok (.ifCond .ne 4, 3) := by decide +kernel
theorem dX7_follow_46 : decode cX7_follow 46 = .ok (.return_, 1) := by decide +kernel
theorem dX7_follow_47 : decode cX7_follow 47 = .ok (.aload_n 0, 1) := by decide +kernel
theorem dX7_follow_48 : decode cX7_follow 48 = .ok (.getfield 12, 3) := by decide +kernel
theorem dX7_follow_51 : decode cX7_follow 51 = .ok (.getfield 74, 3) := by decide +kernel
theorem dX7_follow_54 : decode cX7_follow 54 = .ok (.ifCond .ne 21, 3) := by decide +kernel
theorem dX7_follow_57 : decode cX7_follow 57 = .ok (.aload_n 1, 1) := by decide +kernel
theorem dX7_follow_58 : decode cX7_follow 58 = .ok (.getfield 34, 3) := by decide +kernel
theorem dX7_follow_61 : decode cX7_follow 61 = .ok (.aload_n 0, 1) := by decide +kernel
theorem dX7_follow_62 : decode cX7_follow 62 = .ok (.getfield 12, 3) := by decide +kernel
theorem dX7_follow_65 : decode cX7_follow 65 = .ok (.invokevirtual 82, 3) := by decide +kernel
theorem dX7_follow_68 : decode cX7_follow 68 = .ok (.ifCond .eq 7, 3) := by decide +kernel
theorem dX7_follow_71 : decode cX7_follow 71 = .ok (.iconst 1, 1) := by decide +kernel
theorem dX7_follow_72 : decode cX7_follow 72 = .ok (.goto 4, 3) := by decide +kernel
theorem dX7_follow_75 : decode cX7_follow 75 = .ok (.iconst 0, 1) := by decide +kernel
theorem dX7_follow_76 : decode cX7_follow 76 = .ok (.istore 4, 2) := by decide +kernel
theorem dX7_follow_78 : decode cX7_follow 78 = .ok (.aload_n 0, 1) := by decide +kernel
theorem dX7_follow_79 : decode cX7_follow 79 = .ok (.getfield 28, 3) := by decide +kernel
theorem dX7_follow_82 : decode cX7_follow 82 = .ok (.iload_n 3, 1) := by decide +kernel
theorem dX7_follow_83 : decode cX7_follow 83 = .ok (.iload 4, 2) := by decide +kernel
theorem dX7_follow_85 : decode cX7_follow 85 = .ok (.ifCond .eq 17, 3) := by decide +kernel
theorem dX7_follow_88 : decode cX7_follow 88 = .ok (.aload_n 0, 1) := by decide +kernel
theorem dX7_follow_89 : decode cX7_follow 89 = .ok (.aload_n 0, 1) := by decide +kernel
theorem dX7_follow_90 : decode cX7_follow 90 = .ok (.getfield 12, 3) := by decide +kernel
theorem dX7_follow_93 : decode cX7_follow 93 = .ok (.getfield 86, 3) := by decide +kernel
theorem dX7_follow_96 : decode cX7_follow 96 = .ok (.invokevirtual 89, 3) := by decide +kernel
theorem dX7_follow_99 : decode cX7_follow 99 = .ok (.goto 5, 3) := by decide +kernel
theorem dX7_follow_102 : decode cX7_follow 102 = .ok (.bipush (-9), 2) := by decide +kernel
theorem dX7_follow_104 : decode cX7_follow 104 = .ok (.iastore, 1) := by decide +kernel
theorem dX7_follow_105 : decode cX7_follow 105 = .ok (.aload_n 0, 1) := by decide +kernel
theorem dX7_follow_106 : decode cX7_follow 106 = .ok (.iload_n 3, 1) := by decide +kernel
theorem dX7_follow_107 : decode cX7_follow 107 = .ok (.iconst 1, 1) := by decide +kernel
theorem dX7_follow_108 : decode cX7_follow 108 = .ok (.iadd, 1) := by decide +kernel
theorem dX7_follow_109 : decode cX7_follow 109 = .ok (.putfield 71, 3) := by decide +kernel
theorem dX7_follow_112 : decode cX7_follow 112 = .ok (.iinc 3 1, 3) := by decide +kernel
theorem dX7_follow_115 : decode cX7_follow 115 = .ok (.goto (-97), 3) := by decide +kernel
theorem dX7_follow_118 : decode cX7_follow 118 = .ok (.return_, 1) := by decide +kernel
theorem dX7_indexOf_0 : decode cX7_indexOf 0 = .ok (.iconst 0, 1) := by decide +kernel
theorem dX7_indexOf_1 : decode cX7_indexOf 1 = .ok (.istore_n 2, 1) := by decide +kernel
theorem dX7_indexOf_2 : decode cX7_indexOf 2 = .ok (.iload_n 2, 1) := by decide +kernel
theorem dX7_indexOf_3 : decode cX7_indexOf 3 = .ok (.aload_n 0, 1) := by decide +kernel
theorem dX7_indexOf_4 : decode cX7_indexOf 4 = .ok (.getfield 48, 3) := by decide +kernel
theorem dX7_indexOf_7 : decode cX7_indexOf 7 = .ok (.if_icmp .ge 21, 3) := by decide +kernel
theorem dX7_indexOf_10 : decode cX7_indexOf 10 = .ok (.aload_n 0, 1) := by decide +kernel
theorem dX7_indexOf_11 : decode cX7_indexOf 11 = .ok (.getfield 18, 3) := by decide +kernel
theorem dX7_indexOf_14 : decode cX7_indexOf 14 = .ok (.iload_n 2, 1) := by decide +kernel
theorem dX7_indexOf_15 : decode cX7_indexOf 15 = .ok (.iaload, 1) := by decide +kernel
theorem dX7_indexOf_16 : decode cX7_indexOf 16 = .ok (.iload_n 1, 1) := by decide +kernel
theorem dX7_indexOf_17 : decode cX7_indexOf 17 = .ok (.if_icmp .ne 5, 3) := by decide +kernel
theorem dX7_indexOf_20 : decode cX7_indexOf 20 = .ok (.iload_n 2, 1) := by decide +kernel
theorem dX7_indexOf_21 : decode cX7_indexOf 21 = .ok (.ireturn, 1) := by decide +kernel
theorem dX7_indexOf_22 : decode cX7_indexOf 22 = .ok (.iinc 2 1, 3) := by decide +kernel
theorem dX7_indexOf_25 : decode cX7_indexOf 25 = .ok (.goto (-23), 3) := by decide +kernel
theorem dX7_indexOf_28 : decode cX7_indexOf 28 = .ok (.bipush (-9), 2) := by decide +kernel
theorem dX7_indexOf_30 : decode cX7_indexOf 30 = .ok (.ireturn, 1) := by decide +kernel
theorem dX7_valueOf_0 : decode cX7_valueOf 0 = .ok (.aload_n 0, 1) := by decide +kernel
theorem dX7_valueOf_1 : decode cX7_valueOf 1 = .ok (.getfield 22, 3) := by decide +kernel
theorem dX7_valueOf_4 : decode cX7_valueOf 4 = .ok (.iconst 0, 1) := by decide +kernel
theorem dX7_valueOf_5 : decode cX7_valueOf 5 = .ok (.aload_n 0, 1) := by decide +kernel
theorem dX7_valueOf_6 : decode cX7_valueOf 6 = .ok (.getfield 25, 3) := by decide +kernel
theorem dX7_valueOf_9 : decode cX7_valueOf 9 = .ok (.iconst 0, 1) := by decide +kernel
theorem dX7_valueOf_10 : decode cX7_valueOf 10 = .ok (.bipush 6, 2) := by decide +kernel
theorem dX7_valueOf_12 : decode cX7_valueOf 12 = .ok (.invokestatic 92, 3) := by decide +kernel
theorem dX7_valueOf_15 : decode cX7_valueOf 15 = .ok (.iconst 0, 1) := by decide +kernel
theorem dX7_valueOf_16 : decode cX7_valueOf 16 = .ok (.istore_n 2, 1) := by decide +kernel
theorem dX7_valueOf_17 : decode cX7_valueOf 17 = .ok (.iconst 0, 1) := by decide +kernel
theorem dX7_valueOf_18 : decode cX7_valueOf 18 = .ok (.istore_n 3, 1) := by decide +kernel
theorem dX7_valueOf_19 : decode cX7_valueOf 19 = .ok (.iconst 0, 1) := by decide +kernel
theorem dX7_valueOf_20 : decode cX7_valueOf 20 = .ok (.istore 4, 2) := by decide +kernel
theorem dX7_valueOf_22 : decode cX7_valueOf 22 = .ok (.iload 4, 2) := by decide +kernel
theorem dX7_valueOf_24 : decode cX7_valueOf 24 = .ok (.aload_n 0, 1) := by decide +kernel
theorem dX7_valueOf_25 : decode cX7_valueOf 25 = .ok (.getfield 71, 3) := by decide +kernel
theorem dX7_valueOf_28 : decode cX7_valueOf 28 = .ok (.if_icmp .ge 79, 3) := by decide +kernel
theorem dX7_valueOf_31 : decode cX7_valueOf 31 = .ok (.iload_n 2, 1) := by decide +kernel
theorem dX7_valueOf_32 : decode cX7_valueOf 32 = .ok (.bipush 20, 2) := by decide +kernel
theorem dX7_valueOf_34 : decode cX7_valueOf 34 = .ok (.if_icmp .ge 73, 3) := by decide +kernel
theorem dX7_valueOf_37 : decode cX7_valueOf 37 = .ok (.iload_n 3, 1) := by decide +kernel
theorem dX7_valueOf_38 : decode cX7_valueOf 38 = .ok (.bipush 99, 2) := by decide +kernel
theorem dX7_valueOf_40 : decode cX7_valueOf 40 = .ok (.if_icmp .ge 67, 3) := by decide +kernel
theorem dX7_valueOf_43 : decode cX7_valueOf 43 = .ok (.iinc 3 1, 3) := by decide +kernel
theorem dX7_valueOf_46 : decode cX7_valueOf 46 = .ok (.aload_n 0, 1) := by decide +kernel
theorem dX7_valueOf_47 : decode cX7_valueOf 47 = .ok (.getfield 28, 3) := by decide +kernel
theorem dX7_valueOf_50 : decode cX7_valueOf 50 = .ok (.iload 4, 2) := by decide +kernel
theorem dX7_valueOf_52 : decode cX7_valueOf 52 = .ok (.iaload, 1) := by decide +kernel
theorem dX7_valueOf_53 : decode cX7_valueOf 53 = .ok (.istore 5, 2) := by decide +kernel
theorem dX7_valueOf_55 : decode cX7_valueOf 55 = .ok (.iload 5, 2) := by decide +kernel
theorem dX7_valueOf_57 : decode cX7_valueOf 57 = .ok (.ifCond .lt 44, 3) := by decide +kernel
theorem dX7_valueOf_60 : decode cX7_valueOf 60 = .ok (.iload_n 1, 1) := by decide +kernel
theorem dX7_valueOf_61 : decode cX7_valueOf 61 = .ok (.iload 5, 2) := by decide +kernel
theorem dX7_valueOf_63 : decode cX7_valueOf 63 = .ok (.ishr, 1) := by decide +kernel
theorem dX7_valueOf_64 : decode cX7_valueOf 64 = .ok (.iconst 1, 1) := by decide +kernel
theorem dX7_valueOf_65 : decode cX7_valueOf 65 = .ok (.iand, 1) := by decide +kernel
theorem dX7_valueOf_66 : decode cX7_valueOf 66 = .ok (.ifCond .ne 6, 3) := by decide +kernel
theorem dX7_valueOf_69 : decode cX7_valueOf 69 = .ok (.goto 32, 3) := by decide +kernel
theorem dX7_valueOf_72 : decode cX7_valueOf 72 = .ok (.aload_n 0, 1) := by decide +kernel
theorem dX7_valueOf_73 : decode cX7_valueOf 73 = .ok (.getfield 25, 3) := by decide +kernel
theorem dX7_valueOf_76 : decode cX7_valueOf 76 = .ok (.iload 5, 2) := by decide +kernel
theorem dX7_valueOf_78 : decode cX7_valueOf 78 = .ok (.iaload, 1) := by decide +kernel
theorem dX7_valueOf_79 : decode cX7_valueOf 79 = .ok (.ifCond .le 17, 3) := by decide +kernel
theorem dX7_valueOf_82 : decode cX7_valueOf 82 = .ok (.aload_n 0, 1) := by decide +kernel
theorem dX7_valueOf_83 : decode cX7_valueOf 83 = .ok (.getfield 25, 3) := by decide +kernel
theorem dX7_valueOf_86 : decode cX7_valueOf 86 = .ok (.iload 5, 2) := by decide +kernel
theorem dX7_valueOf_88 : decode cX7_valueOf 88 = .ok (.dup2, 1) := by decide +kernel
theorem dX7_valueOf_89 : decode cX7_valueOf 89 = .ok (.iaload, 1) := by decide +kernel
theorem dX7_valueOf_90 : decode cX7_valueOf 90 = .ok (.iconst 1, 1) := by decide +kernel
theorem dX7_valueOf_91 : decode cX7_valueOf 91 = .ok (.isub, 1) := by decide +kernel
theorem dX7_valueOf_92 : decode cX7_valueOf 92 = .ok (.iastore, 1) := by decide +kernel
theorem dX7_valueOf_93 : decode cX7_valueOf 93 = .ok (.goto 8, 3) := by decide +kernel
theorem dX7_valueOf_96 : decode cX7_valueOf 96 = .ok (.iinc 2 1, 3) := by decide +kernel
theorem dX7_valueOf_99 : decode cX7_valueOf 99 = .ok (.iconst 0, 1) := by decide +kernel
theorem dX7_valueOf_100 : decode cX7_valueOf 100 = .ok (.istore_n 3, 1) := by decide +kernel
theorem dX7_valueOf_101 : decode cX7_valueOf 101 = .ok (.iinc 4 1, 3) := by decide +kernel
theorem dX7_valueOf_104 : decode cX7_valueOf 104 = .ok (.goto (-82), 3) := by decide +kernel
theorem dX7_valueOf_107 : decode cX7_valueOf 107 = .ok (.iload_n 2, 1) := by decide +kernel
theorem dX7_valueOf_108 : decode cX7_valueOf 108 = .ok (.ireturn, 1) := by decide +kernel
theorem dX7_weightedGain_0 : decode cX7_weightedGain 0 = .ok (.aload_n 0, 1) := by decide +kernel
theorem dX7_weightedGain_1 : decode cX7_weightedGain 1 = .ok (.iload_n 1, 1) := by decide +kernel
theorem dX7_weightedGain_2 : decode cX7_weightedGain 2 = .ok (.invokevirtual 89, 3) := by decide +kernel
theorem dX7_weightedGain_5 : decode cX7_weightedGain 5 = .ok (.istore_n 2, 1) := by decide +kernel
theorem dX7_weightedGain_6 : decode cX7_weightedGain 6 = .ok (.iload_n 2, 1) := by decide +kernel
theorem dX7_weightedGain_7 : decode cX7_weightedGain 7 = .ok (.ifCond .ge 5, 3) := by decide +kernel
theorem dX7_weightedGain_10 : decode cX7_weightedGain 10 = .ok (.iconst 0, 1) := by decide +kernel
theorem dX7_weightedGain_11 : decode cX7_weightedGain 11 = .ok (.ireturn, 1) := by decide +kernel
theorem dX7_weightedGain_12 : decode cX7_weightedGain 12 = .ok (.iconst 1, 1) := by decide +kernel
theorem dX7_weightedGain_13 : decode cX7_weightedGain 13 = .ok (.iload_n 2, 1) := by decide +kernel
theorem dX7_weightedGain_14 : decode cX7_weightedGain 14 = .ok (.ishl, 1) := by decide +kernel
theorem dX7_weightedGain_15 : decode cX7_weightedGain 15 = .ok (.istore_n 3, 1) := by decide +kernel
theorem dX7_weightedGain_16 : decode cX7_weightedGain 16 = .ok (.iconst 0, 1) := by decide +kernel
theorem dX7_weightedGain_17 : decode cX7_weightedGain 17 = .ok (.istore 4, 2) := by decide +kernel
theorem dX7_weightedGain_19 : decode cX7_weightedGain 19 = .ok (.iconst 0, 1) := by decide +kernel
theorem dX7_weightedGain_20 : decode cX7_weightedGain 20 = .ok (.istore 5, 2) := by decide +kernel
theorem dX7_weightedGain_22 : decode cX7_weightedGain 22 = .ok (.iload 5, 2) := by decide +kernel
theorem dX7_weightedGain_24 : decode cX7_weightedGain 24 = .ok (.iconst 1, 1) := by decide +kernel
theorem dX7_weightedGain_25 : decode cX7_weightedGain 25 = .ok (.aload_n 0, 1) := by decide +kernel
theorem dX7_weightedGain_26 : decode cX7_weightedGain 26 = .ok (.getfield 48, 3) := by decide +kernel
theorem dX7_weightedGain_29 : decode cX7_weightedGain 29 = .ok (.ishl, 1) := by decide +kernel
theorem dX7_weightedGain_30 : decode cX7_weightedGain 30 = .ok (.if_icmp .ge 68, 3) := by decide +kernel
theorem dX7_weightedGain_33 : decode cX7_weightedGain 33 = .ok (.iload 5, 2) := by decide +kernel
theorem dX7_weightedGain_35 : decode cX7_weightedGain 35 = .ok (.iload_n 3, 1) := by decide +kernel
theorem dX7_weightedGain_36 : decode cX7_weightedGain 36 = .ok (.iand, 1) := by decide +kernel
theorem dX7_weightedGain_37 : decode cX7_weightedGain 37 = .ok (.ifCond .ne 55, 3) := by decide +kernel
theorem dX7_weightedGain_40 : decode cX7_weightedGain 40 = .ok (.iload 5, 2) := by decide +kernel
theorem dX7_weightedGain_42 : decode cX7_weightedGain 42 = .ok (.invokestatic 98, 3) := by decide +kernel
theorem dX7_weightedGain_45 : decode cX7_weightedGain 45 = .ok (.istore 6, 2) := by decide +kernel
theorem dX7_weightedGain_47 : decode cX7_weightedGain 47 = .ok (.iload 6, 2) := by decide +kernel
theorem dX7_weightedGain_49 : decode cX7_weightedGain 49 = .ok (.invokestatic 103, 3) := by decide +kernel
theorem dX7_weightedGain_52 : decode cX7_weightedGain 52 = .ok (.aload_n 0, 1) := by decide +kernel
theorem dX7_weightedGain_53 : decode cX7_weightedGain 53 = .ok (.getfield 48, 3) := by decide +kernel
theorem dX7_weightedGain_56 : decode cX7_weightedGain 56 = .ok (.iconst 1, 1) := by decide +kernel
theorem dX7_weightedGain_57 : decode cX7_weightedGain 57 = .ok (.isub, 1) := by decide +kernel
theorem dX7_weightedGain_58 : decode cX7_weightedGain 58 = .ok (.iload 6, 2) := by decide +kernel
theorem dX7_weightedGain_60 : decode cX7_weightedGain 60 = .ok (.isub, 1) := by decide +kernel
theorem dX7_weightedGain_61 : decode cX7_weightedGain 61 = .ok (.invokestatic 103, 3) := by decide +kernel
theorem dX7_weightedGain_64 : decode cX7_weightedGain 64 = .ok (.imul, 1) := by decide +kernel
theorem dX7_weightedGain_65 : decode cX7_weightedGain 65 = .ok (.istore 7, 2) := by decide +kernel
theorem dX7_weightedGain_67 : decode cX7_weightedGain 67 = .ok (.iload 4, 2) := by decide +kernel
theorem dX7_weightedGain_69 : decode cX7_weightedGain 69 = .ok (.iload 7, 2) := by decide +kernel
theorem dX7_weightedGain_71 : decode cX7_weightedGain 71 = .ok (.aload_n 0, 1) := by decide +kernel
theorem dX7_weightedGain_72 : decode cX7_weightedGain 72 = .ok (.getfield 31, 3) := by decide +kernel
theorem dX7_weightedGain_75 : decode cX7_weightedGain 75 = .ok (.iload 5, 2) := by decide +kernel
theorem dX7_weightedGain_77 : decode cX7_weightedGain 77 = .ok (.iload_n 3, 1) := by decide +kernel
theorem dX7_weightedGain_78 : decode cX7_weightedGain 78 = .ok (.ior, 1) := by decide +kernel
theorem dX7_weightedGain_79 : decode cX7_weightedGain 79 = .ok (.iaload, 1) := by decide +kernel
theorem dX7_weightedGain_80 : decode cX7_weightedGain 80 = .ok (.aload_n 0, 1) := by decide +kernel
theorem dX7_weightedGain_81 : decode cX7_weightedGain 81 = .ok (.getfield 31, 3) := by decide +kernel
theorem dX7_weightedGain_84 : decode cX7_weightedGain 84 = .ok (.iload 5, 2) := by decide +kernel
theorem dX7_weightedGain_86 : decode cX7_weightedGain 86 = .ok (.iaload, 1) := by decide +kernel
theorem dX7_weightedGain_87 : decode cX7_weightedGain 87 = .ok (.isub, 1) := by decide +kernel
theorem dX7_weightedGain_88 : decode cX7_weightedGain 88 = .ok (.imul, 1) := by decide +kernel
theorem dX7_weightedGain_89 : decode cX7_weightedGain 89 = .ok (.iadd, 1) := by decide +kernel
theorem dX7_weightedGain_90 : decode cX7_weightedGain 90 = .ok (.istore 4, 2) := by decide +kernel
theorem dX7_weightedGain_92 : decode cX7_weightedGain 92 = .ok (.iinc 5 1, 3) := by decide +kernel
theorem dX7_weightedGain_95 : decode cX7_weightedGain 95 = .ok (.goto (-73), 3) := by decide +kernel
theorem dX7_weightedGain_98 : decode cX7_weightedGain 98 = .ok (.iload 4, 2) := by decide +kernel
theorem dX7_weightedGain_100 : decode cX7_weightedGain 100 = .ok (.ireturn, 1) := by decide +kernel
theorem dX7_weightOfAtLeast_0 : decode cX7_weightOfAtLeast 0 = .ok (.lconst 0, 1) := by decide +kernel
theorem dX7_weightOfAtLeast_1 : decode cX7_weightOfAtLeast 1 = .ok (.lstore_n 3, 1) := by decide +kernel
theorem dX7_weightOfAtLeast_2 : decode cX7_weightOfAtLeast 2 = .ok (.iconst 0, 1) := by decide +kernel
theorem dX7_weightOfAtLeast_3 : decode cX7_weightOfAtLeast 3 = .ok (.istore 5, 2) := by decide +kernel
theorem dX7_weightOfAtLeast_5 : decode cX7_weightOfAtLeast 5 = .ok (.iload 5, 2) := by decide +kernel
theorem dX7_weightOfAtLeast_7 : decode cX7_weightOfAtLeast 7 = .ok (.iconst 1, 1) := by decide +kernel
theorem dX7_weightOfAtLeast_8 : decode cX7_weightOfAtLeast 8 = .ok (.aload_n 0, 1) := by decide +kernel
theorem dX7_weightOfAtLeast_9 : decode cX7_weightOfAtLeast 9 = .ok (.getfield 48, 3) := by decide +kernel
theorem dX7_weightOfAtLeast_12 : decode cX7_weightOfAtLeast 12 = .ok (.ishl, 1) := by decide +kernel
theorem dX7_weightOfAtLeast_13 : decode cX7_weightOfAtLeast 13 = .ok (.if_icmp .ge 51, 3) := by decide +kernel
theorem dX7_weightOfAtLeast_16 : decode cX7_weightOfAtLeast 16 = .ok (.aload_n 0, 1) := by decide +kernel
theorem dX7_weightOfAtLeast_17 : decode cX7_weightOfAtLeast 17 = .ok (.getfield 31, 3) := by decide +kernel
theorem dX7_weightOfAtLeast_20 : decode cX7_weightOfAtLeast 20 = .ok (.iload 5, 2) := by decide +kernel
theorem dX7_weightOfAtLeast_22 : decode cX7_weightOfAtLeast 22 = .ok (.iaload, 1) := by decide +kernel
theorem dX7_weightOfAtLeast_23 : decode cX7_weightOfAtLeast 23 = .ok (.iload_n 1, 1) := by decide +kernel
theorem dX7_weightOfAtLeast_24 : decode cX7_weightOfAtLeast 24 = .ok (.if_icmp .lt 34, 3) := by decide +kernel
theorem dX7_weightOfAtLeast_27 : decode cX7_weightOfAtLeast 27 = .ok (.iload 5, 2) := by decide +kernel
theorem dX7_weightOfAtLeast_29 : decode cX7_weightOfAtLeast 29 = .ok (.invokestatic 98, 3) := by decide +kernel
theorem dX7_weightOfAtLeast_32 : decode cX7_weightOfAtLeast 32 = .ok (.istore 6, 2) := by decide +kernel
theorem dX7_weightOfAtLeast_34 : decode cX7_weightOfAtLeast 34 = .ok (.lload_n 3, 1) := by decide +kernel
theorem dX7_weightOfAtLeast_35 : decode cX7_weightOfAtLeast 35 = .ok (.bipush 10, 2) := by decide +kernel
theorem dX7_weightOfAtLeast_37 : decode cX7_weightOfAtLeast 37 = .ok (.iload_n 2, 1) := by decide +kernel
theorem dX7_weightOfAtLeast_38 : decode cX7_weightOfAtLeast 38 = .ok (.isub, 1) := by decide +kernel
theorem dX7_weightOfAtLeast_39 : decode cX7_weightOfAtLeast 39 = .ok (.iload 6, 2) := by decide +kernel
theorem dX7_weightOfAtLeast_41 : decode cX7_weightOfAtLeast 41 = .ok (.invokestatic 106, 3) := by decide +kernel
theorem dX7_weightOfAtLeast_44 : decode cX7_weightOfAtLeast 44 = .ok (.iload_n 2, 1) := by decide +kernel
theorem dX7_weightOfAtLeast_45 : decode cX7_weightOfAtLeast 45 = .ok (.aload_n 0, 1) := by decide +kernel
theorem dX7_weightOfAtLeast_46 : decode cX7_weightOfAtLeast 46 = .ok (.getfield 48, 3) := by decide +kernel
theorem dX7_weightOfAtLeast_49 : decode cX7_weightOfAtLeast 49 = .ok (.iload 6, 2) := by decide +kernel
theorem dX7_weightOfAtLeast_51 : decode cX7_weightOfAtLeast 51 = .ok (.isub, 1) := by decide +kernel
theorem dX7_weightOfAtLeast_52 : decode cX7_weightOfAtLeast 52 = .ok (.invokestatic 106, 3) := by decide +kernel
theorem dX7_weightOfAtLeast_55 : decode cX7_weightOfAtLeast 55 = .ok (.lmul, 1) := by decide +kernel
theorem dX7_weightOfAtLeast_56 : decode cX7_weightOfAtLeast 56 = .ok (.ladd, 1) := by decide +kernel
theorem dX7_weightOfAtLeast_57 : decode cX7_weightOfAtLeast 57 = .ok (.lstore_n 3, 1) := by decide +kernel
theorem dX7_weightOfAtLeast_58 : decode cX7_weightOfAtLeast 58 = .ok (.iinc 5 1, 3) := by decide +kernel
theorem dX7_weightOfAtLeast_61 : decode cX7_weightOfAtLeast 61 = .ok (.goto (-56), 3) := by decide +kernel
theorem dX7_weightOfAtLeast_64 : decode cX7_weightOfAtLeast 64 = .ok (.lload_n 3, 1) := by decide +kernel
theorem dX7_weightOfAtLeast_65 : decode cX7_weightOfAtLeast 65 = .ok (.l2i, 1) := by decide +kernel
theorem dX7_weightOfAtLeast_66 : decode cX7_weightOfAtLeast 66 = .ok (.ireturn, 1) := by decide +kernel
theorem dX8_init_0 : decode cX8_init 0 = .ok (.aload_n 0, 1) := by decide +kernel
theorem dX8_init_1 : decode cX8_init 1 = .ok (.invokespecial 3, 3) := by decide +kernel
theorem dX8_init_4 : decode cX8_init 4 = .ok (.aload_n 0, 1) := by decide +kernel
theorem dX8_init_5 : decode cX8_init 5 = .ok (.bipush 80, 2) := by decide +kernel
theorem dX8_init_7 : decode cX8_init 7 = .ok (.newarray .int, 2) := by decide +kernel
theorem dX8_init_9 : decode cX8_init 9 = .ok (.putfield 9, 3) := by decide +kernel
theorem dX8_init_12 : decode cX8_init 12 = .ok (.return_, 1) := by decide +kernel
theorem dX8_readInto_0 : decode cX8_readInto 0 = .ok (.aload_n 1, 1) := by decide +kernel
theorem dX8_readInto_1 : decode cX8_readInto 1 = .ok (.iconst 0, 1) := by decide +kernel
theorem dX8_readInto_2 : decode cX8_readInto 2 = .ok (.putfield 15, 3) := by decide +kernel
theorem dX8_readInto_5 : decode cX8_readInto 5 = .ok (.aload_n 0, 1) := by decide +kernel
theorem dX8_readInto_6 : decode cX8_readInto 6 = .ok (.getfield 21, 3) := by decide +kernel
theorem dX8_readInto_9 : decode cX8_readInto 9 = .ok (.ifCond .eq 14, 3) := by decide +kernel
theorem dX8_readInto_12 : decode cX8_readInto 12 = .ok (.aload_n 0, 1) := by decide +kernel
theorem dX8_readInto_13 : decode cX8_readInto 13 = .ok (.getfield 9, 3) := by decide +kernel
theorem dX8_readInto_16 : decode cX8_readInto 16 = .ok (.iconst 0, 1) := by decide +kernel
theorem dX8_readInto_17 : decode cX8_readInto 17 = .ok (.iaload, 1) := by decide +kernel
theorem dX8_readInto_18 : decode cX8_readInto 18 = .ok (.bipush 67, 2) := by decide +kernel
theorem dX8_readInto_20 : decode cX8_readInto 20 = .ok (.if_icmp .eq 5, 3) := by decide +kernel
theorem dX8_readInto_23 : decode cX8_readInto 23 = .ok (.iconst 0, 1) := by decide +kernel
theorem dX8_readInto_24 : decode cX8_readInto 24 = .ok (.ireturn, 1) := by decide +kernel
theorem dX8_readInto_25 : decode cX8_readInto 25 = .ok (.iconst 1, 1) := by decide +kernel
theorem dX8_readInto_26 : decode cX8_readInto 26 = .ok (.istore_n 2, 1) := by decide +kernel
theorem dX8_readInto_27 : decode cX8_readInto 27 = .ok (.iconst 0, 1) := by decide +kernel
theorem dX8_readInto_28 : decode cX8_readInto 28 = .ok (.istore_n 3, 1) := by decide +kernel
theorem dX8_readInto_29 : decode cX8_readInto 29 = .ok (.iload_n 3, 1) := by decide +kernel
theorem dX8_readInto_30 : decode cX8_readInto 30 = .ok (.bipush 16, 2) := by decide +kernel
theorem dX8_readInto_32 : decode cX8_readInto 32 = .ok (.if_icmp .gt 92, 3) := by decide +kernel
theorem dX8_readInto_35 : decode cX8_readInto 35 = .ok (.iload_n 2, 1) := by decide +kernel
theorem dX8_readInto_36 : decode cX8_readInto 36 = .ok (.aload_n 0, 1) := by decide +kernel
theorem dX8_readInto_37 : decode cX8_readInto 37 = .ok (.getfield 21, 3) := by decide +kernel
theorem dX8_readInto_40 : decode cX8_readInto 40 = .ok (.if_icmp .ge 84, 3) := by decide +kernel
theorem dX8_readInto_43 : decode cX8_readInto 43 = .ok (.aload_n 0, 1) := by decide +kernel
theorem dX8_readInto_44 : decode cX8_readInto 44 = .ok (.getfield 9, 3) := by decide +kernel
theorem dX8_readInto_47 : decode cX8_readInto 47 = .ok (.iload_n 2, 1) := by decide +kernel
theorem dX8_readInto_48 : decode cX8_readInto 48 = .ok (.iaload, 1) := by decide +kernel
theorem dX8_readInto_49 : decode cX8_readInto 49 = .ok (.istore 4, 2) := by decide +kernel
theorem dX8_readInto_51 : decode cX8_readInto 51 = .ok (.iload_n 3, 1) := by decide +kernel
theorem dX8_readInto_52 : decode cX8_readInto 52 = .ok (.bipush 16, 2) := by decide +kernel
theorem dX8_readInto_54 : decode cX8_readInto 54 = .ok (.if_icmp .eq 14, 3) := by decide +kernel
theorem dX8_readInto_57 : decode cX8_readInto 57 = .ok (.ldc 24, 2) := by decide +kernel
theorem dX8_readInto_59 : decode cX8_readInto 59 = .ok (.iload 4, 2) := by decide +kernel
theorem dX8_readInto_61 : decode cX8_readInto 61 = .ok (.i2c, 1) := by decide +kernel
theorem dX8_readInto_62 : decode cX8_readInto 62 = .ok (.invokevirtual 26, 3) := by decide +kernel
theorem dX8_readInto_65 : decode cX8_readInto 65 = .ok (.ifCond .ge 5, 3) := by decide +kernel
theorem dX8_readInto_68 : decode cX8_readInto 68 = .ok (.iload_n 2, 1) := by decide +kernel
theorem dX8_readInto_69 : decode cX8_readInto 69 = .ok (.ireturn, 1) := by decide +kernel
theorem dX8_readInto_70 : decode cX8_readInto 70 = .ok (.iload 4, 2) := by decide +kernel
theorem dX8_readInto_72 : decode cX8_readInto 72 = .ok (.invokestatic 32, 3) := by decide +kernel
theorem dX8_readInto_75 : decode cX8_readInto 75 = .ok (.astore 5, 2) := by decide +kernel
theorem dX8_readInto_77 : decode cX8_readInto 77 = .ok (.aload_n 0, 1) := by decide +kernel
theorem dX8_readInto_78 : decode cX8_readInto 78 = .ok (.iload_n 2, 1) := by decide +kernel
theorem dX8_readInto_79 : decode cX8_readInto 79 = .ok (.iconst 1, 1) := by decide +kernel
theorem dX8_readInto_80 : decode cX8_readInto 80 = .ok (.iadd, 1) := by decide +kernel
theorem dX8_readInto_81 : decode cX8_readInto 81 = .ok (.aload 5, 2) := by decide +kernel
theorem dX8_readInto_83 : decode cX8_readInto 83 = .ok (.invokevirtual 36, 3) := by decide +kernel
theorem dX8_readInto_86 : decode cX8_readInto 86 = .ok (.istore 6, 2) := by decide +kernel
theorem dX8_readInto_88 : decode cX8_readInto 88 = .ok (.iload 6, 2) := by decide +kernel
theorem dX8_readInto_90 : decode cX8_readInto 90 = .ok (.iload_n 2, 1) := by decide +kernel
theorem dX8_readInto_91 : decode cX8_readInto 91 = .ok (.iconst 1, 1) := by decide +kernel
theorem dX8_readInto_92 : decode cX8_readInto 92 = .ok (.iadd, 1) := by decide +kernel
theorem dX8_readInto_93 : decode cX8_readInto 93 = .ok (.aload 5, 2) := by decide +kernel
theorem dX8_readInto_95 : decode cX8_readInto 95 = .ok (.invokevirtual 40, 3) := by decide +kernel
theorem dX8_readInto_98 : decode cX8_readInto 98 = .ok (.iadd, 1) := by decide +kernel
theorem dX8_readInto_99 : decode cX8_readInto 99 = .ok (.if_icmp .ge 6, 3) := by decide +kernel
theorem dX8_readInto_102 : decode cX8_readInto 102 = .ok (.iload 6, 2) := by decide +kernel
theorem dX8_readInto_104 : decode cX8_readInto 104 = .ok (.ireturn, 1) := by decide +kernel
theorem dX8_readInto_105 : decode cX8_readInto 105 = .ok (.aload_n 0, 1) := by decide +kernel
theorem dX8_readInto_106 : decode cX8_readInto 106 = .ok (.iload 4, 2) := by decide +kernel
theorem dX8_readInto_108 : decode cX8_readInto 108 = .ok (.iload_n 2, 1) := by decide +kernel
theorem dX8_readInto_109 : decode cX8_readInto 109 = .ok (.iconst 1, 1) := by decide +kernel
theorem dX8_readInto_110 : decode cX8_readInto 110 = .ok (.iadd, 1) := by decide +kernel
theorem dX8_readInto_111 : decode cX8_readInto 111 = .ok (.aload_n 1, 1) := by decide +kernel
theorem dX8_readInto_112 : decode cX8_readInto 112 = .ok (.invokevirtual 43, 3) := by decide +kernel
theorem dX8_readInto_115 : decode cX8_readInto 115 = .ok (.iload 6, 2) := by decide +kernel
theorem dX8_readInto_117 : decode cX8_readInto 117 = .ok (.istore_n 2, 1) := by decide +kernel
theorem dX8_readInto_118 : decode cX8_readInto 118 = .ok (.iinc 3 1, 3) := by decide +kernel
theorem dX8_readInto_121 : decode cX8_readInto 121 = .ok (.goto (-92), 3) := by decide +kernel
theorem dX8_readInto_124 : decode cX8_readInto 124 = .ok (.bipush (-9), 2) := by decide +kernel
theorem dX8_readInto_126 : decode cX8_readInto 126 = .ok (.ireturn, 1) := by decide +kernel
theorem dX8_formOf_0 : decode cX8_formOf 0 = .ok (.iload_n 0, 1) := by decide +kernel
theorem dX8_formOf_1 : decode cX8_formOf 1 = .ok (.lookupswitch 121 #[(43, 94), (45, 97), (99, 112), (105, 91), (106, 106), (107, 115), (108, 100), (111, 118), (115, 103), (122, 109)], 91) := by decide +kernel
theorem dX8_formOf_92 : decode cX8_formOf 92 = .ok (.ldc 47, 2) := by decide +kernel
theorem dX8_formOf_94 : decode cX8_formOf 94 = .ok (.areturn, 1) := by decide +kernel
theorem dX8_formOf_95 : decode cX8_formOf 95 = .ok (.ldc 49, 2) := by decide +kernel
theorem dX8_formOf_97 : decode cX8_formOf 97 = .ok (.areturn, 1) := by decide +kernel
theorem dX8_formOf_98 : decode cX8_formOf 98 = .ok (.ldc 49, 2) := by decide +kernel
theorem dX8_formOf_100 : decode cX8_formOf 100 = .ok (.areturn, 1) := by decide +kernel
theorem dX8_formOf_101 : decode cX8_formOf 101 = .ok (.ldc 51, 2) := by decide +kernel
theorem dX8_formOf_103 : decode cX8_formOf 103 = .ok (.areturn, 1) := by decide +kernel
theorem dX8_formOf_104 : decode cX8_formOf 104 = .ok (.ldc 51, 2) := by decide +kernel
theorem dX8_formOf_106 : decode cX8_formOf 106 = .ok (.areturn, 1) := by decide +kernel
theorem dX8_formOf_107 : decode cX8_formOf 107 = .ok (.ldc 53, 2) := by decide +kernel
theorem dX8_formOf_109 : decode cX8_formOf 109 = .ok (.areturn, 1) := by decide +kernel
theorem dX8_formOf_110 : decode cX8_formOf 110 = .ok (.ldc 55, 2) := by decide +kernel
theorem dX8_formOf_112 : decode cX8_formOf 112 = .ok (.areturn, 1) := by decide +kernel
theorem dX8_formOf_113 : decode cX8_formOf 113 = .ok (.ldc 57, 2) := by decide +kernel
theorem dX8_formOf_115 : decode cX8_formOf 115 = .ok (.areturn, 1) := by decide +kernel
theorem dX8_formOf_116 : decode cX8_formOf 116 = .ok (.ldc 59, 2) := by decide +kernel
theorem dX8_formOf_118 : decode cX8_formOf 118 = .ok (.areturn, 1) := by decide +kernel
theorem dX8_formOf_119 : decode cX8_formOf 119 = .ok (.ldc 59, 2) := by decide +kernel
theorem dX8_formOf_121 : decode cX8_formOf 121 = .ok (.areturn, 1) := by decide +kernel
theorem dX8_formOf_122 : decode cX8_formOf 122 = .ok (.ldc 61, 2) := by decide +kernel
theorem dX8_formOf_124 : decode cX8_formOf 124 = .ok (.areturn, 1) := by decide +kernel
theorem dX8_endOfMatch_0 : decode cX8_endOfMatch 0 = .ok (.iconst 0, 1) := by decide +kernel
theorem dX8_endOfMatch_1 : decode cX8_endOfMatch 1 = .ok (.istore_n 3, 1) := by decide +kernel
theorem dX8_endOfMatch_2 : decode cX8_endOfMatch 2 = .ok (.iload_n 3, 1) := by decide +kernel
theorem dX8_endOfMatch_3 : decode cX8_endOfMatch 3 = .ok (.aload_n 2, 1) := by decide +kernel
theorem dX8_endOfMatch_4 : decode cX8_endOfMatch 4 = .ok (.invokevirtual 40, 3) := by decide +kernel
theorem dX8_endOfMatch_7 : decode cX8_endOfMatch 7 = .ok (.if_icmp .ge 40, 3) := by decide +kernel
theorem dX8_endOfMatch_10 : decode cX8_endOfMatch 10 = .ok (.iload_n 1, 1) := by decide +kernel
theorem dX8_endOfMatch_11 : decode cX8_endOfMatch 11 = .ok (.iload_n 3, 1) := by decide +kernel
theorem dX8_endOfMatch_12 : decode cX8_endOfMatch 12 = .ok (.iadd, 1) := by decide +kernel
theorem dX8_endOfMatch_13 : decode cX8_endOfMatch 13 = .ok (.istore 4, 2) := by decide +kernel
theorem dX8_endOfMatch_15 : decode cX8_endOfMatch 15 = .ok (.iload 4, 2) := by decide +kernel
theorem dX8_endOfMatch_17 : decode cX8_endOfMatch 17 = .ok (.aload_n 0, 1) := by decide +kernel
theorem dX8_endOfMatch_18 : decode cX8_endOfMatch 18 = .ok (.getfield 21, 3) := by decide +kernel
theorem dX8_endOfMatch_21 : decode cX8_endOfMatch 21 = .ok (.if_icmp .ge 17, 3) := by decide +kernel
theorem dX8_endOfMatch_24 : decode cX8_endOfMatch 24 = .ok (.aload_n 0, 1) := by decide +kernel
theorem dX8_endOfMatch_25 : decode cX8_endOfMatch 25 = .ok (.aload_n 2, 1) := by decide +kernel
theorem dX8_endOfMatch_26 : decode cX8_endOfMatch 26 = .ok (.iload_n 3, 1) := by decide +kernel
theorem dX8_endOfMatch_27 : decode cX8_endOfMatch 27 = .ok (.invokevirtual 63, 3) := by decide +kernel
theorem dX8_endOfMatch_30 : decode cX8_endOfMatch 30 = .ok (.iload 4, 2) := by decide +kernel
theorem dX8_endOfMatch_32 : decode cX8_endOfMatch 32 = .ok (.invokevirtual 67, 3) := by decide +kernel
theorem dX8_endOfMatch_35 : decode cX8_endOfMatch 35 = .ok (.ifCond .ne 6, 3) := by decide +kernel
theorem dX8_endOfMatch_38 : decode cX8_endOfMatch 38 = .ok (.iload 4, 2) := by decide +kernel
theorem dX8_endOfMatch_40 : decode cX8_endOfMatch 40 = .ok (.ireturn, 1) := by decide +kernel
theorem dX8_endOfMatch_41 : decode cX8_endOfMatch 41 = .ok (.iinc 3 1, 3) := by decide +kernel
theorem dX8_endOfMatch_44 : decode cX8_endOfMatch 44 = .ok (.goto (-42), 3) := by decide +kernel
theorem dX8_endOfMatch_47 : decode cX8_endOfMatch 47 = .ok (.iload_n 1, 1) := by decide +kernel
theorem dX8_endOfMatch_48 : decode cX8_endOfMatch 48 = .ok (.aload_n 2, 1) := by decide +kernel
theorem dX8_endOfMatch_49 : decode cX8_endOfMatch 49 = .ok (.invokevirtual 40, 3) := by decide +kernel
theorem dX8_endOfMatch_52 : decode cX8_endOfMatch 52 = .ok (.iadd, 1) := by decide +kernel
theorem dX8_endOfMatch_53 : decode cX8_endOfMatch 53 = .ok (.ireturn, 1) := by decide +kernel
theorem dX8_fits_0 : decode cX8_fits 0 = .ok (.aload_n 0, 1) := by decide +kernel
theorem dX8_fits_1 : decode cX8_fits 1 = .ok (.getfield 9, 3) := by decide +kernel
theorem dX8_fits_4 : decode cX8_fits 4 = .ok (.iload_n 2, 1) := by decide +kernel
theorem dX8_fits_5 : decode cX8_fits 5 = .ok (.iaload, 1) := by decide +kernel
theorem dX8_fits_6 : decode cX8_fits 6 = .ok (.istore_n 3, 1) := by decide +kernel
theorem dX8_fits_7 : decode cX8_fits 7 = .ok (.iload_n 1, 1) := by decide +kernel
theorem dX8_fits_8 : decode cX8_fits 8 = .ok (.tableswitch 160 109 117 #[88, 160, 160, 160, 160, 70, 52, 106, 124], 52) := by decide +kernel
theorem dX8_fits_60 : decode cX8_fits 60 = .ok (.iload_n 3, 1) := by decide +kernel
theorem dX8_fits_61 : decode cX8_fits 61 = .ok (.bipush 43, 2) := by decide +kernel
theorem dX8_fits_63 : decode cX8_fits 63 = .ok (.if_icmp .eq 9, 3) := by decide +kernel
theorem dX8_fits_66 : decode cX8_fits 66 = .ok (.iload_n 3, 1) := by decide +kernel
theorem dX8_fits_67 : decode cX8_fits 67 = .ok (.bipush 45, 2) := by decide +kernel
theorem dX8_fits_69 : decode cX8_fits 69 = .ok (.if_icmp .ne 7, 3) := by decide +kernel
theorem dX8_fits_72 : decode cX8_fits 72 = .ok (.iconst 1, 1) := by decide +kernel
theorem dX8_fits_73 : decode cX8_fits 73 = .ok (.goto 4, 3) := by decide +kernel
theorem dX8_fits_76 : decode cX8_fits 76 = .ok (.iconst 0, 1) := by decide +kernel
theorem dX8_fits_77 : decode cX8_fits 77 = .ok (.ireturn, 1) := by decide +kernel
theorem dX8_fits_78 : decode cX8_fits 78 = .ok (.iload_n 3, 1) := by decide +kernel
theorem dX8_fits_79 : decode cX8_fits 79 = .ok (.bipush 48, 2) := by decide +kernel
theorem dX8_fits_81 : decode cX8_fits 81 = .ok (.if_icmp .lt 13, 3) := by decide +kernel
theorem dX8_fits_84 : decode cX8_fits 84 = .ok (.iload_n 3, 1) := by decide +kernel
theorem dX8_fits_85 : decode cX8_fits 85 = .ok (.bipush 51, 2) := by decide +kernel
theorem dX8_fits_87 : decode cX8_fits 87 = .ok (.if_icmp .gt 7, 3) := by decide +kernel
theorem dX8_fits_90 : decode cX8_fits 90 = .ok (.iconst 1, 1) := by decide +kernel
theorem dX8_fits_91 : decode cX8_fits 91 = .ok (.goto 4, 3) := by decide +kernel
theorem dX8_fits_94 : decode cX8_fits 94 = .ok (.iconst 0, 1) := by decide +kernel
theorem dX8_fits_95 : decode cX8_fits 95 = .ok (.ireturn, 1) := by decide +kernel
theorem dX8_fits_96 : decode cX8_fits 96 = .ok (.iload_n 3, 1) := by decide +kernel
theorem dX8_fits_97 : decode cX8_fits 97 = .ok (.bipush 48, 2) := by decide +kernel
theorem dX8_fits_99 : decode cX8_fits 99 = .ok (.if_icmp .lt 13, 3) := by decide +kernel
theorem dX8_fits_102 : decode cX8_fits 102 = .ok (.iload_n 3, 1) := by decide +kernel
theorem dX8_fits_103 : decode cX8_fits 103 = .ok (.bipush 55, 2) := by decide +kernel
theorem dX8_fits_105 : decode cX8_fits 105 = .ok (.if_icmp .gt 7, 3) := by decide +kernel
theorem dX8_fits_108 : decode cX8_fits 108 = .ok (.iconst 1, 1) := by decide +kernel
theorem dX8_fits_109 : decode cX8_fits 109 = .ok (.goto 4, 3) := by decide +kernel
theorem dX8_fits_112 : decode cX8_fits 112 = .ok (.iconst 0, 1) := by decide +kernel
theorem dX8_fits_113 : decode cX8_fits 113 = .ok (.ireturn, 1) := by decide +kernel
theorem dX8_fits_114 : decode cX8_fits 114 = .ok (.iload_n 3, 1) := by decide +kernel
theorem dX8_fits_115 : decode cX8_fits 115 = .ok (.bipush 48, 2) := by decide +kernel
theorem dX8_fits_117 : decode cX8_fits 117 = .ok (.if_icmp .eq 9, 3) := by decide +kernel
theorem dX8_fits_120 : decode cX8_fits 120 = .ok (.iload_n 3, 1) := by decide +kernel
theorem dX8_fits_121 : decode cX8_fits 121 = .ok (.bipush 49, 2) := by decide +kernel
theorem dX8_fits_123 : decode cX8_fits 123 = .ok (.if_icmp .ne 7, 3) := by decide +kernel
theorem dX8_fits_126 : decode cX8_fits 126 = .ok (.iconst 1, 1) := by decide +kernel
theorem dX8_fits_127 : decode cX8_fits 127 = .ok (.goto 4, 3) := by decide +kernel
theorem dX8_fits_130 : decode cX8_fits 130 = .ok (.iconst 0, 1) := by decide +kernel
theorem dX8_fits_131 : decode cX8_fits 131 = .ok (.ireturn, 1) := by decide +kernel
theorem dX8_fits_132 : decode cX8_fits 132 = .ok (.iload_n 3, 1) := by decide +kernel
theorem dX8_fits_133 : decode cX8_fits 133 = .ok (.bipush 48, 2) := by decide +kernel
theorem dX8_fits_135 : decode cX8_fits 135 = .ok (.if_icmp .lt 31, 3) := by decide +kernel
theorem dX8_fits_138 : decode cX8_fits 138 = .ok (.iload_n 3, 1) := by decide +kernel
theorem dX8_fits_139 : decode cX8_fits 139 = .ok (.aload_n 0, 1) := by decide +kernel
theorem dX8_fits_140 : decode cX8_fits 140 = .ok (.getfield 9, 3) := by decide +kernel
theorem dX8_fits_143 : decode cX8_fits 143 = .ok (.iload_n 2, 1) := by decide +kernel
theorem dX8_fits_144 : decode cX8_fits 144 = .ok (.iconst 1, 1) := by decide +kernel
theorem dX8_fits_145 : decode cX8_fits 145 = .ok (.isub, 1) := by decide +kernel
theorem dX8_fits_146 : decode cX8_fits 146 = .ok (.iaload, 1) := by decide +kernel
theorem dX8_fits_147 : decode cX8_fits 147 = .ok (.bipush 49, 2) := by decide +kernel
theorem dX8_fits_149 : decode cX8_fits 149 = .ok (.if_icmp .ne 8, 3) := by decide +kernel
theorem dX8_fits_152 : decode cX8_fits 152 = .ok (.bipush 53, 2) := by decide +kernel
theorem dX8_fits_154 : decode cX8_fits 154 = .ok (.goto 5, 3) := by decide +kernel
theorem dX8_fits_157 : decode cX8_fits 157 = .ok (.bipush 57, 2) := by decide +kernel
theorem dX8_fits_159 : decode cX8_fits 159 = .ok (.if_icmp .gt 7, 3) := by decide +kernel
theorem dX8_fits_162 : decode cX8_fits 162 = .ok (.iconst 1, 1) := by decide +kernel
theorem dX8_fits_163 : decode cX8_fits 163 = .ok (.goto 4, 3) := by decide +kernel
theorem dX8_fits_166 : decode cX8_fits 166 = .ok (.iconst 0, 1) := by decide +kernel
theorem dX8_fits_167 : decode cX8_fits 167 = .ok (.ireturn, 1) := by decide +kernel
theorem dX8_fits_168 : decode cX8_fits 168 = .ok (.iload_n 3, 1) := by decide +kernel
theorem dX8_fits_169 : decode cX8_fits 169 = .ok (.bipush 48, 2) := by decide +kernel
theorem dX8_fits_171 : decode cX8_fits 171 = .ok (.if_icmp .lt 13, 3) := by decide +kernel
theorem dX8_fits_174 : decode cX8_fits 174 = .ok (.iload_n 3, 1) := by decide +kernel
theorem dX8_fits_175 : decode cX8_fits 175 = .ok (.bipush 57, 2) := by decide +kernel
theorem dX8_fits_177 : decode cX8_fits 177 = .ok (.if_icmp .gt 7, 3) := by decide +kernel
theorem dX8_fits_180 : decode cX8_fits 180 = .ok (.iconst 1, 1) := by decide +kernel
theorem dX8_fits_181 : decode cX8_fits 181 = .ok (.goto 4, 3) := by decide +kernel
theorem dX8_fits_184 : decode cX8_fits 184 = .ok (.iconst 0, 1) := by decide +kernel
theorem dX8_fits_185 : decode cX8_fits 185 = .ok (.ireturn, 1) := by decide +kernel
theorem dX8_addInstruction_0 : decode cX8_addInstruction 0 = .ok (.iload_n 1, 1) := by decide +kernel
theorem dX8_addInstruction_1 : decode cX8_addInstruction 1 = .ok (.tableswitch 222 98 122 #[174, 149, 222, 222, 222, 222, 184, 222, 115, 194, 222, 222, 222, 208, 222, 222, 222, 222, 222, 222, 222, 222, 222, 222, 129], 115) := by decide +kernel
theorem dX8_addInstruction_116 : decode cX8_addInstruction 116 = .ok (.aload_n 3, 1) := by decide +kernel
theorem dX8_addInstruction_117 : decode cX8_addInstruction 117 = .ok (.iload_n 1, 1) := by decide +kernel
theorem dX8_addInstruction_118 : decode cX8_addInstruction 118 = .ok (.iconst 0, 1) := by decide +kernel
theorem dX8_addInstruction_119 : decode cX8_addInstruction 119 = .ok (.aload_n 0, 1) := by decide +kernel
theorem dX8_addInstruction_120 : decode cX8_addInstruction 120 = .ok (.iload_n 2, 1) := by decide +kernel
theorem dX8_addInstruction_121 : decode cX8_addInstruction 121 = .ok (.invokevirtual 71, 3) := by decide +kernel
theorem dX8_addInstruction_124 : decode cX8_addInstruction 124 = .ok (.invokevirtual 74, 3) := by decide +kernel
theorem dX8_addInstruction_127 : decode cX8_addInstruction 127 = .ok (.goto 113, 3) := by decide +kernel
theorem dX8_addInstruction_130 : decode cX8_addInstruction 130 = .ok (.aload_n 3, 1) := by decide +kernel
theorem dX8_addInstruction_131 : decode cX8_addInstruction 131 = .ok (.iload_n 1, 1) := by decide +kernel
theorem dX8_addInstruction_132 : decode cX8_addInstruction 132 = .ok (.aload_n 0, 1) := by decide +kernel
theorem dX8_addInstruction_133 : decode cX8_addInstruction 133 = .ok (.iload_n 2, 1) := by decide +kernel
theorem dX8_addInstruction_134 : decode cX8_addInstruction 134 = .ok (.invokevirtual 78, 3) := by decide +kernel
theorem dX8_addInstruction_137 : decode cX8_addInstruction 137 = .ok (.aload_n 0, 1) := by decide +kernel
theorem dX8_addInstruction_138 : decode cX8_addInstruction 138 = .ok (.iload_n 2, 1) := by decide +kernel
theorem dX8_addInstruction_139 : decode cX8_addInstruction 139 = .ok (.iconst 1, 1) := by decide +kernel
theorem dX8_addInstruction_140 : decode cX8_addInstruction 140 = .ok (.iadd, 1) := by decide +kernel
theorem dX8_addInstruction_141 : decode cX8_addInstruction 141 = .ok (.invokevirtual 71, 3) := by decide +kernel
theorem dX8_addInstruction_144 : decode cX8_addInstruction 144 = .ok (.invokevirtual 74, 3) := by decide +kernel
theorem dX8_addInstruction_147 : decode cX8_addInstruction 147 = .ok (.goto 93, 3) := by decide +kernel
theorem dX8_addInstruction_150 : decode cX8_addInstruction 150 = .ok (.aload_n 3, 1) := by decide +kernel
theorem dX8_addInstruction_151 : decode cX8_addInstruction 151 = .ok (.iload_n 1, 1) := by decide +kernel
theorem dX8_addInstruction_152 : decode cX8_addInstruction 152 = .ok (.iconst 0, 1) := by decide +kernel
theorem dX8_addInstruction_153 : decode cX8_addInstruction 153 = .ok (.bipush 10, 2) := by decide +kernel
theorem dX8_addInstruction_155 : decode cX8_addInstruction 155 = .ok (.aload_n 0, 1) := by decide +kernel
theorem dX8_addInstruction_156 : decode cX8_addInstruction 156 = .ok (.iload_n 2, 1) := by decide +kernel
theorem dX8_addInstruction_157 : decode cX8_addInstruction 157 = .ok (.invokevirtual 78, 3) := by decide +kernel
theorem dX8_addInstruction_160 : decode cX8_addInstruction 160 = .ok (.imul, 1) := by decide +kernel
theorem dX8_addInstruction_161 : decode cX8_addInstruction 161 = .ok (.aload_n 0, 1) := by decide +kernel
theorem dX8_addInstruction_162 : decode cX8_addInstruction 162 = .ok (.iload_n 2, 1) := by decide +kernel
theorem dX8_addInstruction_163 : decode cX8_addInstruction 163 = .ok (.iconst 1, 1) := by decide +kernel
theorem dX8_addInstruction_164 : decode cX8_addInstruction 164 = .ok (.iadd, 1) := by decide +kernel
theorem dX8_addInstruction_165 : decode cX8_addInstruction 165 = .ok (.invokevirtual 78, 3) := by decide +kernel
theorem dX8_addInstruction_168 : decode cX8_addInstruction 168 = .ok (.iadd, 1) := by decide +kernel
theorem dX8_addInstruction_169 : decode cX8_addInstruction 169 = .ok (.invokevirtual 74, 3) := by decide +kernel
theorem dX8_addInstruction_172 : decode cX8_addInstruction 172 = .ok (.goto 68, 3) := by decide +kernel
theorem dX8_addInstruction_175 : decode cX8_addInstruction 175 = .ok (.aload_n 3, 1) := by decide +kernel
theorem dX8_addInstruction_176 : decode cX8_addInstruction 176 = .ok (.iload_n 1, 1) := by decide +kernel
theorem dX8_addInstruction_177 : decode cX8_addInstruction 177 = .ok (.iconst 0, 1) := by decide +kernel
theorem dX8_addInstruction_178 : decode cX8_addInstruction 178 = .ok (.iconst 0, 1) := by decide +kernel
theorem dX8_addInstruction_179 : decode cX8_addInstruction 179 = .ok (.invokevirtual 74, 3) := by decide +kernel
theorem dX8_addInstruction_182 : decode cX8_addInstruction 182 = .ok (.goto 58, 3) := by decide +kernel
theorem dX8_addInstruction_185 : decode cX8_addInstruction 185 = .ok (.aload_n 3, 1) := by decide +kernel
theorem dX8_addInstruction_186 : decode cX8_addInstruction 186 = .ok (.iload_n 1, 1) := by decide +kernel
theorem dX8_addInstruction_187 : decode cX8_addInstruction 187 = .ok (.iconst 0, 1) := by decide +kernel
theorem dX8_addInstruction_188 : decode cX8_addInstruction 188 = .ok (.iconst 0, 1) := by decide +kernel
theorem dX8_addInstruction_189 : decode cX8_addInstruction 189 = .ok (.invokevirtual 74, 3) := by decide +kernel
theorem dX8_addInstruction_192 : decode cX8_addInstruction 192 = .ok (.goto 48, 3) := by decide +kernel
theorem dX8_addInstruction_195 : decode cX8_addInstruction 195 = .ok (.aload_n 3, 1) := by decide +kernel
theorem dX8_addInstruction_196 : decode cX8_addInstruction 196 = .ok (.iload_n 1, 1) := by decide +kernel
theorem dX8_addInstruction_197 : decode cX8_addInstruction 197 = .ok (.aload_n 0, 1) := by decide +kernel
theorem dX8_addInstruction_198 : decode cX8_addInstruction 198 = .ok (.iload_n 2, 1) := by decide +kernel
theorem dX8_addInstruction_199 : decode cX8_addInstruction 199 = .ok (.invokevirtual 78, 3) := by decide +kernel
theorem dX8_addInstruction_202 : decode cX8_addInstruction 202 = .ok (.iconst 0, 1) := by decide +kernel
theorem dX8_addInstruction_203 : decode cX8_addInstruction 203 = .ok (.invokevirtual 74, 3) := by decide +kernel
theorem dX8_addInstruction_206 : decode cX8_addInstruction 206 = .ok (.goto 34, 3) := by decide +kernel
theorem dX8_addInstruction_209 : decode cX8_addInstruction 209 = .ok (.aload_n 3, 1) := by decide +kernel
theorem dX8_addInstruction_210 : decode cX8_addInstruction 210 = .ok (.iload_n 1, 1) := by decide +kernel
theorem dX8_addInstruction_211 : decode cX8_addInstruction 211 = .ok (.aload_n 0, 1) := by decide +kernel
theorem dX8_addInstruction_212 : decode cX8_addInstruction 212 = .ok (.iload_n 2, 1) := by decide +kernel
theorem dX8_addInstruction_213 : decode cX8_addInstruction 213 = .ok (.invokevirtual 78, 3) := by decide +kernel
theorem dX8_addInstruction_216 : decode cX8_addInstruction 216 = .ok (.iconst 0, 1) := by decide +kernel
theorem dX8_addInstruction_217 : decode cX8_addInstruction 217 = .ok (.invokevirtual 74, 3) := by decide +kernel
theorem dX8_addInstruction_220 : decode cX8_addInstruction 220 = .ok (.goto 20, 3) := by decide +kernel
theorem dX8_addInstruction_223 : decode cX8_addInstruction 223 = .ok (.aload_n 3, 1) := by decide +kernel
theorem dX8_addInstruction_224 : decode cX8_addInstruction 224 = .ok (.iload_n 1, 1) := by decide +kernel
theorem dX8_addInstruction_225 : decode cX8_addInstruction 225 = .ok (.aload_n 0, 1) := by decide +kernel
theorem dX8_addInstruction_226 : decode cX8_addInstruction 226 = .ok (.iload_n 2, 1) := by decide +kernel
theorem dX8_addInstruction_227 : decode cX8_addInstruction 227 = .ok (.invokevirtual 78, 3) := by decide +kernel
theorem dX8_addInstruction_230 : decode cX8_addInstruction 230 = .ok (.aload_n 0, 1) := by decide +kernel
theorem dX8_addInstruction_231 : decode cX8_addInstruction 231 = .ok (.iload_n 2, 1) := by decide +kernel
theorem dX8_addInstruction_232 : decode cX8_addInstruction 232 = .ok (.iconst 1, 1) := by decide +kernel
theorem dX8_addInstruction_233 : decode cX8_addInstruction 233 = .ok (.iadd, 1) := by decide +kernel
theorem dX8_addInstruction_234 : decode cX8_addInstruction 234 = .ok (.invokevirtual 78, 3) := by decide +kernel
theorem dX8_addInstruction_237 : decode cX8_addInstruction 237 = .ok (.invokevirtual 74, 3) := by decide +kernel
theorem dX8_addInstruction_240 : decode cX8_addInstruction 240 = .ok (.return_, 1) := by decide +kernel
theorem dX8_distance_0 : decode cX8_distance 0 = .ok (.aload_n 0, 1) := by decide +kernel
theorem dX8_distance_1 : decode cX8_distance 1 = .ok (.getfield 9, 3) := by decide +kernel
theorem dX8_distance_4 : decode cX8_distance 4 = .ok (.iload_n 1, 1) := by decide +kernel
theorem dX8_distance_5 : decode cX8_distance 5 = .ok (.iaload, 1) := by decide +kernel
theorem dX8_distance_6 : decode cX8_distance 6 = .ok (.bipush 45, 2) := by decide +kernel
theorem dX8_distance_8 : decode cX8_distance 8 = .ok (.if_icmp .ne 14, 3) := by decide +kernel
theorem dX8_distance_11 : decode cX8_distance 11 = .ok (.aload_n 0, 1) := by decide +kernel
theorem dX8_distance_12 : decode cX8_distance 12 = .ok (.iload_n 1, 1) := by decide +kernel
theorem dX8_distance_13 : decode cX8_distance 13 = .ok (.iconst 1, 1) := by decide +kernel
theorem dX8_distance_14 : decode cX8_distance 14 = .ok (.iadd, 1) := by decide +kernel
theorem dX8_distance_15 : decode cX8_distance 15 = .ok (.invokevirtual 78, 3) := by decide +kernel
theorem dX8_distance_18 : decode cX8_distance 18 = .ok (.ineg, 1) := by decide +kernel
theorem dX8_distance_19 : decode cX8_distance 19 = .ok (.goto 10, 3) := by decide +kernel
theorem dX8_distance_22 : decode cX8_distance 22 = .ok (.aload_n 0, 1) := by decide +kernel
theorem dX8_distance_23 : decode cX8_distance 23 = .ok (.iload_n 1, 1) := by decide +kernel
theorem dX8_distance_24 : decode cX8_distance 24 = .ok (.iconst 1, 1) := by decide +kernel
theorem dX8_distance_25 : decode cX8_distance 25 = .ok (.iadd, 1) := by decide +kernel
theorem dX8_distance_26 : decode cX8_distance 26 = .ok (.invokevirtual 78, 3) := by decide +kernel
theorem dX8_distance_29 : decode cX8_distance 29 = .ok (.ireturn, 1) := by decide +kernel
theorem dX8_digit_0 : decode cX8_digit 0 = .ok (.aload_n 0, 1) := by decide +kernel
theorem dX8_digit_1 : decode cX8_digit 1 = .ok (.getfield 9, 3) := by decide +kernel
theorem dX8_digit_4 : decode cX8_digit 4 = .ok (.iload_n 1, 1) := by decide +kernel
theorem dX8_digit_5 : decode cX8_digit 5 = .ok (.iaload, 1) := by decide +kernel
theorem dX8_digit_6 : decode cX8_digit 6 = .ok (.bipush 48, 2) := by decide +kernel
theorem dX8_digit_8 : decode cX8_digit 8 = .ok (.isub, 1) := by decide +kernel
theorem dX8_digit_9 : decode cX8_digit 9 = .ok (.ireturn, 1) := by decide +kernel
