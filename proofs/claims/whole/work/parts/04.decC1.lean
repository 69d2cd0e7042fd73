theorem dX10_init_0 : decode cX10_init 0 = .ok (.aload_n 0, 1) := by decide +kernel
theorem dX10_init_1 : decode cX10_init 1 = .ok (.invokespecial 1, 3) := by decide +kernel
theorem dX10_init_4 : decode cX10_init 4 = .ok (.aload_n 0, 1) := by decide +kernel
theorem dX10_init_5 : decode cX10_init 5 = .ok (.bipush 80, 2) := by decide +kernel
theorem dX10_init_7 : decode cX10_init 7 = .ok (.newarray .int, 2) := by decide +kernel
theorem dX10_init_9 : decode cX10_init 9 = .ok (.putfield 7, 3) := by decide +kernel
theorem dX10_init_12 : decode cX10_init 12 = .ok (.aload_n 0, 1) := by decide +kernel
theorem dX10_init_13 : decode cX10_init 13 = .ok (.bipush 16, 2) := by decide +kernel
theorem dX10_init_15 : decode cX10_init 15 = .ok (.newarray .int, 2) := by decide +kernel
theorem dX10_init_17 : decode cX10_init 17 = .ok (.putfield 13, 3) := by decide +kernel
theorem dX10_init_20 : decode cX10_init 20 = .ok (.aload_n 0, 1) := by decide +kernel
theorem dX10_init_21 : decode cX10_init 21 = .ok (.bipush 16, 2) := by decide +kernel
theorem dX10_init_23 : decode cX10_init 23 = .ok (.newarray .int, 2) := by decide +kernel
theorem dX10_init_25 : decode cX10_init 25 = .ok (.putfield 16, 3) := by decide +kernel
theorem dX10_init_28 : decode cX10_init 28 = .ok (.aload_n 0, 1) := by decide +kernel
theorem dX10_init_29 : decode cX10_init 29 = .ok (.bipush 16, 2) := by decide +kernel
theorem dX10_init_31 : decode cX10_init 31 = .ok (.newarray .int, 2) := by decide +kernel
theorem dX10_init_33 : decode cX10_init 33 = .ok (.putfield 19, 3) := by decide +kernel
theorem dX10_init_36 : decode cX10_init 36 = .ok (.aload_n 0, 1) := by decide +kernel
theorem dX10_init_37 : decode cX10_init 37 = .ok (.sipush 128, 3) := by decide +kernel
theorem dX10_init_40 : decode cX10_init 40 = .ok (.newarray .int, 2) := by decide +kernel
theorem dX10_init_42 : decode cX10_init 42 = .ok (.putfield 22, 3) := by decide +kernel
theorem dX10_init_45 : decode cX10_init 45 = .ok (.aload_n 0, 1) := by decide +kernel
theorem dX10_init_46 : decode cX10_init 46 = .ok (.sipush 128, 3) := by decide +kernel
theorem dX10_init_49 : decode cX10_init 49 = .ok (.newarray .int, 2) := by decide +kernel
theorem dX10_init_51 : decode cX10_init 51 = .ok (.putfield 25, 3) := by decide +kernel
theorem dX10_init_54 : decode cX10_init 54 = .ok (.aload_n 0, 1) := by decide +kernel
theorem dX10_init_55 : decode cX10_init 55 = .ok (.sipush 1792, 3) := by decide +kernel
theorem dX10_init_58 : decode cX10_init 58 = .ok (.newarray .int, 2) := by decide +kernel
theorem dX10_init_60 : decode cX10_init 60 = .ok (.putfield 28, 3) := by decide +kernel
theorem dX10_init_63 : decode cX10_init 63 = .ok (.aload_n 0, 1) := by decide +kernel
theorem dX10_init_64 : decode cX10_init 64 = .ok (.sipush 256, 3) := by decide +kernel
theorem dX10_init_67 : decode cX10_init 67 = .ok (.newarray .int, 2) := by decide +kernel
theorem dX10_init_69 : decode cX10_init 69 = .ok (.putfield 31, 3) := by decide +kernel
theorem dX10_init_72 : decode cX10_init 72 = .ok (.aload_n 0, 1) := by decide +kernel
theorem dX10_init_73 : decode cX10_init 73 = .ok (.iconst 2, 1) := by decide +kernel
theorem dX10_init_74 : decode cX10_init 74 = .ok (.newarray .boolean, 2) := by decide +kernel
theorem dX10_init_76 : decode cX10_init 76 = .ok (.putfield 34, 3) := by decide +kernel
theorem dX10_init_79 : decode cX10_init 79 = .ok (.aload_n 0, 1) := by decide +kernel
theorem dX10_init_80 : decode cX10_init 80 = .ok (.bipush 6, 2) := by decide +kernel
theorem dX10_init_82 : decode cX10_init 82 = .ok (.newarray .int, 2) := by decide +kernel
theorem dX10_init_84 : decode cX10_init 84 = .ok (.putfield 38, 3) := by decide +kernel
theorem dX10_init_87 : decode cX10_init 87 = .ok (.aload_n 0, 1) := by decide +kernel
theorem dX10_init_88 : decode cX10_init 88 = .ok (.bipush 6, 2) := by decide +kernel
theorem dX10_init_90 : decode cX10_init 90 = .ok (.newarray .int, 2) := by decide +kernel
theorem dX10_init_92 : decode cX10_init 92 = .ok (.putfield 41, 3) := by decide +kernel
theorem dX10_init_95 : decode cX10_init 95 = .ok (.aload_n 0, 1) := by decide +kernel
theorem dX10_init_96 : decode cX10_init 96 = .ok (.bipush 8, 2) := by decide +kernel
theorem dX10_init_98 : decode cX10_init 98 = .ok (.newarray .int, 2) := by decide +kernel
theorem dX10_init_100 : decode cX10_init 100 = .ok (.putfield 44, 3) := by decide +kernel
theorem dX10_init_103 : decode cX10_init 103 = .ok (.aload_n 0, 1) := by decide +kernel
theorem dX10_init_104 : decode cX10_init 104 = .ok (.bipush 6, 2) := by decide +kernel
theorem dX10_init_106 : decode cX10_init 106 = .ok (.newarray .int, 2) := by decide +kernel
theorem dX10_init_108 : decode cX10_init 108 = .ok (.putfield 47, 3) := by decide +kernel
theorem dX10_init_111 : decode cX10_init 111 = .ok (.aload_n 0, 1) := by decide +kernel
theorem dX10_init_112 : decode cX10_init 112 = .ok (.bipush 64, 2) := by decide +kernel
theorem dX10_init_114 : decode cX10_init 114 = .ok (.newarray .int, 2) := by decide +kernel
theorem dX10_init_116 : decode cX10_init 116 = .ok (.putfield 50, 3) := by decide +kernel
theorem dX10_init_119 : decode cX10_init 119 = .ok (.aload_n 0, 1) := by decide +kernel
theorem dX10_init_120 : decode cX10_init 120 = .ok (.bipush 16, 2) := by decide +kernel
theorem dX10_init_122 : decode cX10_init 122 = .ok (.newarray .int, 2) := by decide +kernel
theorem dX10_init_124 : decode cX10_init 124 = .ok (.putfield 53, 3) := by decide +kernel
theorem dX10_init_127 : decode cX10_init 127 = .ok (.aload_n 0, 1) := by decide +kernel
theorem dX10_init_128 : decode cX10_init 128 = .ok (.bipush 16, 2) := by decide +kernel
theorem dX10_init_130 : decode cX10_init 130 = .ok (.newarray .int, 2) := by decide +kernel
theorem dX10_init_132 : decode cX10_init 132 = .ok (.putfield 56, 3) := by decide +kernel
theorem dX10_init_135 : decode cX10_init 135 = .ok (.aload_n 0, 1) := by decide +kernel
theorem dX10_init_136 : decode cX10_init 136 = .ok (.bipush 16, 2) := by decide +kernel
theorem dX10_init_138 : decode cX10_init 138 = .ok (.newarray .int, 2) := by decide +kernel
theorem dX10_init_140 : decode cX10_init 140 = .ok (.putfield 59, 3) := by decide +kernel
theorem dX10_init_143 : decode cX10_init 143 = .ok (.aload_n 0, 1) := by decide +kernel
theorem dX10_init_144 : decode cX10_init 144 = .ok (.bipush (-9), 2) := by decide +kernel
theorem dX10_init_146 : decode cX10_init 146 = .ok (.putfield 62, 3) := by decide +kernel
theorem dX10_init_149 : decode cX10_init 149 = .ok (.aload_n 0, 1) := by decide +kernel
theorem dX10_init_150 : decode cX10_init 150 = .ok (.getfield 22, 3) := by decide +kernel
theorem dX10_init_153 : decode cX10_init 153 = .ok (.invokestatic 66, 3) := by decide +kernel
theorem dX10_init_156 : decode cX10_init 156 = .ok (.return_, 1) := by decide +kernel
theorem dX10_clear_0 : decode cX10_clear 0 = .ok (.iconst 0, 1) := by decide +kernel
theorem dX10_clear_1 : decode cX10_clear 1 = .ok (.istore_n 1, 1) := by decide +kernel
theorem dX10_clear_2 : decode cX10_clear 2 = .ok (.iload_n 1, 1) := by decide +kernel
theorem dX10_clear_3 : decode cX10_clear 3 = .ok (.sipush 128, 3) := by decide +kernel
theorem dX10_clear_6 : decode cX10_clear 6 = .ok (.if_icmp .ge 13, 3) := by decide +kernel
theorem dX10_clear_9 : decode cX10_clear 9 = .ok (.aload_n 0, 1) := by decide +kernel
theorem dX10_clear_10 : decode cX10_clear 10 = .ok (.iload_n 1, 1) := by decide +kernel
theorem dX10_clear_11 : decode cX10_clear 11 = .ok (.iconst 0, 1) := by decide +kernel
theorem dX10_clear_12 : decode cX10_clear 12 = .ok (.iastore, 1) := by decide +kernel
theorem dX10_clear_13 : decode cX10_clear 13 = .ok (.iinc 1 1, 3) := by decide +kernel
theorem dX10_clear_16 : decode cX10_clear 16 = .ok (.goto (-14), 3) := by decide +kernel
theorem dX10_clear_19 : decode cX10_clear 19 = .ok (.return_, 1) := by decide +kernel
theorem dX10_copyRow_0 : decode cX10_copyRow 0 = .ok (.iconst 0, 1) := by decide +kernel
theorem dX10_copyRow_1 : decode cX10_copyRow 1 = .ok (.istore_n 2, 1) := by decide +kernel
theorem dX10_copyRow_2 : decode cX10_copyRow 2 = .ok (.iload_n 2, 1) := by decide +kernel
theorem dX10_copyRow_3 : decode cX10_copyRow 3 = .ok (.sipush 128, 3) := by decide +kernel
theorem dX10_copyRow_6 : decode cX10_copyRow 6 = .ok (.if_icmp .ge 15, 3) := by decide +kernel
theorem dX10_copyRow_9 : decode cX10_copyRow 9 = .ok (.aload_n 1, 1) := by decide +kernel
theorem dX10_copyRow_10 : decode cX10_copyRow 10 = .ok (.iload_n 2, 1) := by decide +kernel
theorem dX10_copyRow_11 : decode cX10_copyRow 11 = .ok (.aload_n 0, 1) := by decide +kernel
theorem dX10_copyRow_12 : decode cX10_copyRow 12 = .ok (.iload_n 2, 1) := by decide +kernel
theorem dX10_copyRow_13 : decode cX10_copyRow 13 = .ok (.iaload, 1) := by decide +kernel
theorem dX10_copyRow_14 : decode cX10_copyRow 14 = .ok (.iastore, 1) := by decide +kernel
theorem dX10_copyRow_15 : decode cX10_copyRow 15 = .ok (.iinc 2 1, 3) := by decide +kernel
theorem dX10_copyRow_18 : decode cX10_copyRow 18 = .ok (.goto (-16), 3) := by decide +kernel
theorem dX10_copyRow_21 : decode cX10_copyRow 21 = .ok (.return_, 1) := by decide +kernel
theorem dX10_in_0 : decode cX10_in 0 = .ok (.lload_n 0, 1) := by decide +kernel
theorem dX10_in_1 : decode cX10_in 1 = .ok (.lload_n 2, 1) := by decide +kernel
theorem dX10_in_2 : decode cX10_in 2 = .ok (.lcmp, 1) := by decide +kernel
theorem dX10_in_3 : decode cX10_in 3 = .ok (.ifCond .lt 14, 3) := by decide +kernel
theorem dX10_in_6 : decode cX10_in 6 = .ok (.lload_n 0, 1) := by decide +kernel
theorem dX10_in_7 : decode cX10_in 7 = .ok (.lload 4, 2) := by decide +kernel
theorem dX10_in_9 : decode cX10_in 9 = .ok (.lcmp, 1) := by decide +kernel
theorem dX10_in_10 : decode cX10_in 10 = .ok (.ifCond .gt 7, 3) := by decide +kernel
theorem dX10_in_13 : decode cX10_in 13 = .ok (.iconst 1, 1) := by decide +kernel
theorem dX10_in_14 : decode cX10_in 14 = .ok (.goto 4, 3) := by decide +kernel
theorem dX10_in_17 : decode cX10_in 17 = .ok (.iconst 0, 1) := by decide +kernel
theorem dX10_in_18 : decode cX10_in 18 = .ok (.ireturn, 1) := by decide +kernel
theorem dX10_has_0 : decode cX10_has 0 = .ok (.iload_n 0, 1) := by decide +kernel
theorem dX10_has_1 : decode cX10_has 1 = .ok (.iload_n 1, 1) := by decide +kernel
theorem dX10_has_2 : decode cX10_has 2 = .ok (.ishr, 1) := by decide +kernel
theorem dX10_has_3 : decode cX10_has 3 = .ok (.iconst 1, 1) := by decide +kernel
theorem dX10_has_4 : decode cX10_has 4 = .ok (.iand, 1) := by decide +kernel
theorem dX10_has_5 : decode cX10_has 5 = .ok (.iconst 1, 1) := by decide +kernel
theorem dX10_has_6 : decode cX10_has 6 = .ok (.if_icmp .ne 7, 3) := by decide +kernel
theorem dX10_has_9 : decode cX10_has 9 = .ok (.iconst 1, 1) := by decide +kernel
theorem dX10_has_10 : decode cX10_has 10 = .ok (.goto 4, 3) := by decide +kernel
theorem dX10_has_13 : decode cX10_has 13 = .ok (.iconst 0, 1) := by decide +kernel
theorem dX10_has_14 : decode cX10_has 14 = .ok (.ireturn, 1) := by decide +kernel
theorem dX10_ones_0 : decode cX10_ones 0 = .ok (.iconst 0, 1) := by decide +kernel
theorem dX10_ones_1 : decode cX10_ones 1 = .ok (.istore_n 1, 1) := by decide +kernel
theorem dX10_ones_2 : decode cX10_ones 2 = .ok (.iconst 0, 1) := by decide +kernel
theorem dX10_ones_3 : decode cX10_ones 3 = .ok (.istore_n 2, 1) := by decide +kernel
theorem dX10_ones_4 : decode cX10_ones 4 = .ok (.iload_n 2, 1) := by decide +kernel
theorem dX10_ones_5 : decode cX10_ones 5 = .ok (.bipush 16, 2) := by decide +kernel
theorem dX10_ones_7 : decode cX10_ones 7 = .ok (.if_icmp .ge 17, 3) := by decide +kernel
theorem dX10_ones_10 : decode cX10_ones 10 = .ok (.iload_n 1, 1) := by decide +kernel
theorem dX10_ones_11 : decode cX10_ones 11 = .ok (.iload_n 0, 1) := by decide +kernel
theorem dX10_ones_12 : decode cX10_ones 12 = .ok (.iload_n 2, 1) := by decide +kernel
theorem dX10_ones_13 : decode cX10_ones 13 = .ok (.ishr, 1) := by decide +kernel
theorem dX10_ones_14 : decode cX10_ones 14 = .ok (.iconst 1, 1) := by decide +kernel
theorem dX10_ones_15 : decode cX10_ones 15 = .ok (.iand, 1) := by decide +kernel
theorem dX10_ones_16 : decode cX10_ones 16 = .ok (.iadd, 1) := by decide +kernel
theorem dX10_ones_17 : decode cX10_ones 17 = .ok (.istore_n 1, 1) := by decide +kernel
theorem dX10_ones_18 : decode cX10_ones 18 = .ok (.iinc 2 1, 3) := by decide +kernel
theorem dX10_ones_21 : decode cX10_ones 21 = .ok (.goto (-17), 3) := by decide +kernel
theorem dX10_ones_24 : decode cX10_ones 24 = .ok (.iload_n 1, 1) := by decide +kernel
theorem dX10_ones_25 : decode cX10_ones 25 = .ok (.ireturn, 1) := by decide +kernel
theorem dX10_power_0 : decode cX10_power 0 = .ok (.iconst 1, 1) := by decide +kernel
theorem dX10_power_1 : decode cX10_power 1 = .ok (.istore_n 2, 1) := by decide +kernel
theorem dX10_power_2 : decode cX10_power 2 = .ok (.iconst 0, 1) := by decide +kernel
theorem dX10_power_3 : decode cX10_power 3 = .ok (.istore_n 3, 1) := by decide +kernel
theorem dX10_power_4 : decode cX10_power 4 = .ok (.iload_n 3, 1) := by decide +kernel
theorem dX10_power_5 : decode cX10_power 5 = .ok (.iload_n 1, 1) := by decide +kernel
theorem dX10_power_6 : decode cX10_power 6 = .ok (.if_icmp .ge 13, 3) := by decide +kernel
theorem dX10_power_9 : decode cX10_power 9 = .ok (.iload_n 2, 1) := by decide +kernel
theorem dX10_power_10 : decode cX10_power 10 = .ok (.iload_n 0, 1) := by decide +kernel
theorem dX10_power_11 : decode cX10_power 11 = .ok (.imul, 1) := by decide +kernel
theorem dX10_power_12 : decode cX10_power 12 = .ok (.istore_n 2, 1) := by decide +kernel
theorem dX10_power_13 : decode cX10_power 13 = .ok (.iinc 3 1, 3) := by decide +kernel
theorem dX10_power_16 : decode cX10_power 16 = .ok (.goto (-12), 3) := by decide +kernel
theorem dX10_power_19 : decode cX10_power 19 = .ok (.iload_n 2, 1) := by decide +kernel
theorem dX10_power_20 : decode cX10_power 20 = .ok (.ireturn, 1) := by decide +kernel
theorem dX10_factorial_0 : decode cX10_factorial 0 = .ok (.iconst 1, 1) := by decide +kernel
theorem dX10_factorial_1 : decode cX10_factorial 1 = .ok (.istore_n 1, 1) := by decide +kernel
theorem dX10_factorial_2 : decode cX10_factorial 2 = .ok (.iconst 2, 1) := by decide +kernel
theorem dX10_factorial_3 : decode cX10_factorial 3 = .ok (.istore_n 2, 1) := by decide +kernel
theorem dX10_factorial_4 : decode cX10_factorial 4 = .ok (.iload_n 2, 1) := by decide +kernel
theorem dX10_factorial_5 : decode cX10_factorial 5 = .ok (.iload_n 0, 1) := by decide +kernel
theorem dX10_factorial_6 : decode cX10_factorial 6 = .ok (.if_icmp .gt 13, 3) := by decide +kernel
theorem dX10_factorial_9 : decode cX10_factorial 9 = .ok (.iload_n 1, 1) := by decide +kernel
theorem dX10_factorial_10 : decode cX10_factorial 10 = .ok (.iload_n 2, 1) := by decide +kernel
theorem dX10_factorial_11 : decode cX10_factorial 11 = .ok (.imul, 1) := by decide +kernel
theorem dX10_factorial_12 : decode cX10_factorial 12 = .ok (.istore_n 1, 1) := by decide +kernel
theorem dX10_factorial_13 : decode cX10_factorial 13 = .ok (.iinc 2 1, 3) := by decide +kernel
theorem dX10_factorial_16 : decode cX10_factorial 16 = .ok (.goto (-12), 3) := by decide +kernel
theorem dX10_factorial_19 : decode cX10_factorial 19 = .ok (.iload_n 1, 1) := by decide +kernel
theorem dX10_factorial_20 : decode cX10_factorial 20 = .ok (.ireturn, 1) := by decide +kernel
theorem dX10_fraction_0 : decode cX10_fraction 0 = .ok (.iload_n 0, 1) := by decide +kernel
theorem dX10_fraction_1 : decode cX10_fraction 1 = .ok (.ifCond .ge 8, 3) := by decide +kernel
theorem dX10_fraction_4 : decode cX10_fraction 4 = .ok (.iload_n 0, 1) := by decide +kernel
theorem dX10_fraction_5 : decode cX10_fraction 5 = .ok (.ineg, 1) := by decide +kernel
theorem dX10_fraction_6 : decode cX10_fraction 6 = .ok (.goto 4, 3) := by decide +kernel
theorem dX10_fraction_9 : decode cX10_fraction 9 = .ok (.iload_n 0, 1) := by decide +kernel
theorem dX10_fraction_10 : decode cX10_fraction 10 = .ok (.istore_n 3, 1) := by decide +kernel
theorem dX10_fraction_11 : decode cX10_fraction 11 = .ok (.iload_n 1, 1) := by decide +kernel
theorem dX10_fraction_12 : decode cX10_fraction 12 = .ok (.istore 4, 2) := by decide +kernel
theorem dX10_fraction_14 : decode cX10_fraction 14 = .ok (.iload 4, 2) := by decide +kernel
theorem dX10_fraction_16 : decode cX10_fraction 16 = .ok (.ifCond .eq 19, 3) := by decide +kernel
theorem dX10_fraction_19 : decode cX10_fraction 19 = .ok (.iload_n 3, 1) := by decide +kernel
theorem dX10_fraction_20 : decode cX10_fraction 20 = .ok (.iload 4, 2) := by decide +kernel
theorem dX10_fraction_22 : decode cX10_fraction 22 = .ok (.irem, 1) := by decide +kernel
theorem dX10_fraction_23 : decode cX10_fraction 23 = .ok (.istore 5, 2) := by decide +kernel
theorem dX10_fraction_25 : decode cX10_fraction 25 = .ok (.iload 4, 2) := by decide +kernel
theorem dX10_fraction_27 : decode cX10_fraction 27 = .ok (.istore_n 3, 1) := by decide +kernel
theorem dX10_fraction_28 : decode cX10_fraction 28 = .ok (.iload 5, 2) := by decide +kernel
theorem dX10_fraction_30 : decode cX10_fraction 30 = .ok (.istore 4, 2) := by decide +kernel
theorem dX10_fraction_32 : decode cX10_fraction 32 = .ok (.goto (-18), 3) := by decide +kernel
theorem dX10_fraction_35 : decode cX10_fraction 35 = .ok (.iload_n 2, 1) := by decide +kernel
theorem dX10_fraction_36 : decode cX10_fraction 36 = .ok (.ifCond .eq 9, 3) := by decide +kernel
theorem dX10_fraction_39 : decode cX10_fraction 39 = .ok (.iload_n 0, 1) := by decide +kernel
theorem dX10_fraction_40 : decode cX10_fraction 40 = .ok (.iload_n 3, 1) := by decide +kernel
theorem dX10_fraction_41 : decode cX10_fraction 41 = .ok (.idiv, 1) := by decide +kernel
theorem dX10_fraction_42 : decode cX10_fraction 42 = .ok (.goto 6, 3) := by decide +kernel
theorem dX10_fraction_45 : decode cX10_fraction 45 = .ok (.iload_n 1, 1) := by decide +kernel
theorem dX10_fraction_46 : decode cX10_fraction 46 = .ok (.iload_n 3, 1) := by decide +kernel
theorem dX10_fraction_47 : decode cX10_fraction 47 = .ok (.idiv, 1) := by decide +kernel
theorem dX10_fraction_48 : decode cX10_fraction 48 = .ok (.ireturn, 1) := by decide +kernel
theorem dX10_isPlace_0 : decode cX10_isPlace 0 = .ok (.iload_n 1, 1) := by decide +kernel
theorem dX10_isPlace_1 : decode cX10_isPlace 1 = .ok (.i2l, 1) := by decide +kernel
theorem dX10_isPlace_2 : decode cX10_isPlace 2 = .ok (.lconst 0, 1) := by decide +kernel
theorem dX10_isPlace_3 : decode cX10_isPlace 3 = .ok (.aload_n 0, 1) := by decide +kernel
theorem dX10_isPlace_4 : decode cX10_isPlace 4 = .ok (.getfield 70, 3) := by decide +kernel
theorem dX10_isPlace_7 : decode cX10_isPlace 7 = .ok (.iconst 1, 1) := by decide +kernel
theorem dX10_isPlace_8 : decode cX10_isPlace 8 = .ok (.isub, 1) := by decide +kernel
theorem dX10_isPlace_9 : decode cX10_isPlace 9 = .ok (.i2l, 1) := by decide +kernel
theorem dX10_isPlace_10 : decode cX10_isPlace 10 = .ok (.invokestatic 73, 3) := by decide +kernel
theorem dX10_isPlace_13 : decode cX10_isPlace 13 = .ok (.ireturn, 1) := by decide +kernel
theorem dX10_write_0 : decode cX10_write 0 = .ok (.iload_n 1, 1) := by decide +kernel
theorem dX10_write_1 : decode cX10_write 1 = .ok (.i2l, 1) := by decide +kernel
theorem dX10_write_2 : decode cX10_write 2 = .ok (.lconst 0, 1) := by decide +kernel
theorem dX10_write_3 : decode cX10_write 3 = .ok (.ldc2_w 77, 3) := by decide +kernel
theorem dX10_write_6 : decode cX10_write 6 = .ok (.invokestatic 73, 3) := by decide +kernel
theorem dX10_write_9 : decode cX10_write 9 = .ok (.ifCond .ne 6, 3) := by decide +kernel
theorem dX10_write_12 : decode cX10_write 12 = .ok (.bipush (-2), 2) := by decide +kernel
theorem dX10_write_14 : decode cX10_write 14 = .ok (.ireturn, 1) := by decide +kernel
theorem dX10_write_15 : decode cX10_write 15 = .ok (.aload_n 0, 1) := by decide +kernel
theorem dX10_write_16 : decode cX10_write 16 = .ok (.getfield 79, 3) := by decide +kernel
theorem dX10_write_19 : decode cX10_write 19 = .ok (.bipush 80, 2) := by decide +kernel
theorem dX10_write_21 : decode cX10_write 21 = .ok (.if_icmp .ne 6, 3) := by decide +kernel
theorem dX10_write_24 : decode cX10_write 24 = .ok (.bipush (-4), 2) := by decide +kernel
theorem dX10_write_26 : decode cX10_write 26 = .ok (.ireturn, 1) := by decide +kernel
theorem dX10_write_27 : decode cX10_write 27 = .ok (.aload_n 0, 1) := by decide +kernel
theorem dX10_write_28 : decode cX10_write 28 = .ok (.getfield 7, 3) := by decide +kernel
theorem dX10_write_31 : decode cX10_write 31 = .ok (.aload_n 0, 1) := by decide +kernel
theorem dX10_write_32 : decode cX10_write 32 = .ok (.getfield 79, 3) := by decide +kernel
theorem dX10_write_35 : decode cX10_write 35 = .ok (.iload_n 1, 1) := by decide +kernel
theorem dX10_write_36 : decode cX10_write 36 = .ok (.iastore, 1) := by decide +kernel
theorem dX10_write_37 : decode cX10_write 37 = .ok (.aload_n 0, 1) := by decide +kernel
theorem dX10_write_38 : decode cX10_write 38 = .ok (.dup, 1) := by decide +kernel
theorem dX10_write_39 : decode cX10_write 39 = .ok (.getfield 79, 3) := by decide +kernel
theorem dX10_write_42 : decode cX10_write 42 = .ok (.iconst 1, 1) := by decide +kernel
theorem dX10_write_43 : decode cX10_write 43 = .ok (.iadd, 1) := by decide +kernel
theorem dX10_write_44 : decode cX10_write 44 = .ok (.putfield 79, 3) := by decide +kernel
theorem dX10_write_47 : decode cX10_write 47 = .ok (.aload_n 0, 1) := by decide +kernel
theorem dX10_write_48 : decode cX10_write 48 = .ok (.getfield 79, 3) := by decide +kernel
theorem dX10_write_51 : decode cX10_write 51 = .ok (.ireturn, 1) := by decide +kernel
theorem dX10_wipe_0 : decode cX10_wipe 0 = .ok (.aload_n 0, 1) := by decide +kernel
theorem dX10_wipe_1 : decode cX10_wipe 1 = .ok (.getfield 79, 3) := by decide +kernel
theorem dX10_wipe_4 : decode cX10_wipe 4 = .ok (.istore_n 1, 1) := by decide +kernel
theorem dX10_wipe_5 : decode cX10_wipe 5 = .ok (.aload_n 0, 1) := by decide +kernel
theorem dX10_wipe_6 : decode cX10_wipe 6 = .ok (.iconst 0, 1) := by decide +kernel
theorem dX10_wipe_7 : decode cX10_wipe 7 = .ok (.putfield 79, 3) := by decide +kernel
theorem dX10_wipe_10 : decode cX10_wipe 10 = .ok (.iload_n 1, 1) := by decide +kernel
theorem dX10_wipe_11 : decode cX10_wipe 11 = .ok (.ireturn, 1) := by decide +kernel
theorem dX10_kindOf_0 : decode cX10_kindOf 0 = .ok (.iload_n 0, 1) := by decide +kernel
theorem dX10_kindOf_1 : decode cX10_kindOf 1 = .ok (.lookupswitch 137 #[(43, 109), (45, 111), (98, 125), (99, 122), (104, 134), (105, 107), (106, 117), (107, 128), (108, 113), (111, 131), (115, 115), (122, 119)], 107) := by decide +kernel
theorem dX10_kindOf_108 : decode cX10_kindOf 108 = .ok (.iconst 0, 1) := by decide +kernel
theorem dX10_kindOf_109 : decode cX10_kindOf 109 = .ok (.ireturn, 1) := by decide +kernel
theorem dX10_kindOf_110 : decode cX10_kindOf 110 = .ok (.iconst 1, 1) := by decide +kernel
theorem dX10_kindOf_111 : decode cX10_kindOf 111 = .ok (.ireturn, 1) := by decide +kernel
theorem dX10_kindOf_112 : decode cX10_kindOf 112 = .ok (.iconst 2, 1) := by decide +kernel
theorem dX10_kindOf_113 : decode cX10_kindOf 113 = .ok (.ireturn, 1) := by decide +kernel
theorem dX10_kindOf_114 : decode cX10_kindOf 114 = .ok (.iconst 3, 1) := by decide +kernel
theorem dX10_kindOf_115 : decode cX10_kindOf 115 = .ok (.ireturn, 1) := by decide +kernel
theorem dX10_kindOf_116 : decode cX10_kindOf 116 = .ok (.iconst 4, 1) := by decide +kernel
theorem dX10_kindOf_117 : decode cX10_kindOf 117 = .ok (.ireturn, 1) := by decide +kernel
theorem dX10_kindOf_118 : decode cX10_kindOf 118 = .ok (.iconst 5, 1) := by decide +kernel
theorem dX10_kindOf_119 : decode cX10_kindOf 119 = .ok (.ireturn, 1) := by decide +kernel
theorem dX10_kindOf_120 : decode cX10_kindOf 120 = .ok (.bipush 6, 2) := by decide +kernel
theorem dX10_kindOf_122 : decode cX10_kindOf 122 = .ok (.ireturn, 1) := by decide +kernel
theorem dX10_kindOf_123 : decode cX10_kindOf 123 = .ok (.bipush 7, 2) := by decide +kernel
theorem dX10_kindOf_125 : decode cX10_kindOf 125 = .ok (.ireturn, 1) := by decide +kernel
theorem dX10_kindOf_126 : decode cX10_kindOf 126 = .ok (.bipush 8, 2) := by decide +kernel
theorem dX10_kindOf_128 : decode cX10_kindOf 128 = .ok (.ireturn, 1) := by decide +kernel
theorem dX10_kindOf_129 : decode cX10_kindOf 129 = .ok (.bipush 9, 2) := by decide +kernel
theorem dX10_kindOf_131 : decode cX10_kindOf 131 = .ok (.ireturn, 1) := by decide +kernel
theorem dX10_kindOf_132 : decode cX10_kindOf 132 = .ok (.bipush 10, 2) := by decide +kernel
theorem dX10_kindOf_134 : decode cX10_kindOf 134 = .ok (.ireturn, 1) := by decide +kernel
theorem dX10_kindOf_135 : decode cX10_kindOf 135 = .ok (.bipush 11, 2) := by decide +kernel
theorem dX10_kindOf_137 : decode cX10_kindOf 137 = .ok (.ireturn, 1) := by decide +kernel
theorem dX10_kindOf_138 : decode cX10_kindOf 138 = .ok (.bipush (-9), 2) := by decide +kernel
theorem dX10_kindOf_140 : decode cX10_kindOf 140 = .ok (.ireturn, 1) := by decide +kernel
theorem dX10_takeSign_0 : decode cX10_takeSign 0 = .ok (.iload_n 1, 1) := by decide +kernel
theorem dX10_takeSign_1 : decode cX10_takeSign 1 = .ok (.invokestatic 82, 3) := by decide +kernel
theorem dX10_takeSign_4 : decode cX10_takeSign 4 = .ok (.istore_n 2, 1) := by decide +kernel
theorem dX10_takeSign_5 : decode cX10_takeSign 5 = .ok (.iload_n 2, 1) := by decide +kernel
theorem dX10_takeSign_6 : decode cX10_takeSign 6 = .ok (.bipush (-9), 2) := by decide +kernel
theorem dX10_takeSign_8 : decode cX10_takeSign 8 = .ok (.if_icmp .eq 12, 3) := by decide +kernel
theorem dX10_takeSign_11 : decode cX10_takeSign 11 = .ok (.aload_n 0, 1) := by decide +kernel
theorem dX10_takeSign_12 : decode cX10_takeSign 12 = .ok (.getfield 86, 3) := by decide +kernel
theorem dX10_takeSign_15 : decode cX10_takeSign 15 = .ok (.bipush 16, 2) := by decide +kernel
theorem dX10_takeSign_17 : decode cX10_takeSign 17 = .ok (.if_icmp .ne 5, 3) := by decide +kernel
theorem dX10_takeSign_20 : decode cX10_takeSign 20 = .ok (.iconst 0, 1) := by decide +kernel
theorem dX10_takeSign_21 : decode cX10_takeSign 21 = .ok (.ireturn, 1) := by decide +kernel
theorem dX10_takeSign_22 : decode cX10_takeSign 22 = .ok (.aload_n 0, 1) := by decide +kernel
theorem dX10_takeSign_23 : decode cX10_takeSign 23 = .ok (.getfield 53, 3) := by decide +kernel
theorem dX10_takeSign_26 : decode cX10_takeSign 26 = .ok (.aload_n 0, 1) := by decide +kernel
theorem dX10_takeSign_27 : decode cX10_takeSign 27 = .ok (.getfield 86, 3) := by decide +kernel
theorem dX10_takeSign_30 : decode cX10_takeSign 30 = .ok (.iload_n 2, 1) := by decide +kernel
theorem dX10_takeSign_31 : decode cX10_takeSign 31 = .ok (.iastore, 1) := by decide +kernel
theorem dX10_takeSign_32 : decode cX10_takeSign 32 = .ok (.aload_n 0, 1) := by decide +kernel
theorem dX10_takeSign_33 : decode cX10_takeSign 33 = .ok (.getfield 56, 3) := by decide +kernel
theorem dX10_takeSign_36 : decode cX10_takeSign 36 = .ok (.aload_n 0, 1) := by decide +kernel
theorem dX10_takeSign_37 : decode cX10_takeSign 37 = .ok (.getfield 86, 3) := by decide +kernel
theorem dX10_takeSign_40 : decode cX10_takeSign 40 = .ok (.iconst 0, 1) := by decide +kernel
theorem dX10_takeSign_41 : decode cX10_takeSign 41 = .ok (.iastore, 1) := by decide +kernel
theorem dX10_takeSign_42 : decode cX10_takeSign 42 = .ok (.aload_n 0, 1) := by decide +kernel
theorem dX10_takeSign_43 : decode cX10_takeSign 43 = .ok (.getfield 59, 3) := by decide +kernel
theorem dX10_takeSign_46 : decode cX10_takeSign 46 = .ok (.aload_n 0, 1) := by decide +kernel
theorem dX10_takeSign_47 : decode cX10_takeSign 47 = .ok (.getfield 86, 3) := by decide +kernel
theorem dX10_takeSign_50 : decode cX10_takeSign 50 = .ok (.iconst 0, 1) := by decide +kernel
theorem dX10_takeSign_51 : decode cX10_takeSign 51 = .ok (.iastore, 1) := by decide +kernel
theorem dX10_takeSign_52 : decode cX10_takeSign 52 = .ok (.iload_n 2, 1) := by decide +kernel
theorem dX10_takeSign_53 : decode cX10_takeSign 53 = .ok (.bipush 8, 2) := by decide +kernel
theorem dX10_takeSign_55 : decode cX10_takeSign 55 = .ok (.if_icmp .eq 9, 3) := by decide +kernel
theorem dX10_takeSign_58 : decode cX10_takeSign 58 = .ok (.iload_n 2, 1) := by decide +kernel
theorem dX10_takeSign_59 : decode cX10_takeSign 59 = .ok (.bipush 11, 2) := by decide +kernel
theorem dX10_takeSign_61 : decode cX10_takeSign 61 = .ok (.if_icmp .ne 16, 3) := by decide +kernel
theorem dX10_takeSign_64 : decode cX10_takeSign 64 = .ok (.aload_n 0, 1) := by decide +kernel
theorem dX10_takeSign_65 : decode cX10_takeSign 65 = .ok (.dup, 1) := by decide +kernel
theorem dX10_takeSign_66 : decode cX10_takeSign 66 = .ok (.getfield 86, 3) := by decide +kernel
theorem dX10_takeSign_69 : decode cX10_takeSign 69 = .ok (.iconst 1, 1) := by decide +kernel
theorem dX10_takeSign_70 : decode cX10_takeSign 70 = .ok (.iadd, 1) := by decide +kernel
theorem dX10_takeSign_71 : decode cX10_takeSign 71 = .ok (.putfield 86, 3) := by decide +kernel
theorem dX10_takeSign_74 : decode cX10_takeSign 74 = .ok (.goto 8, 3) := by decide +kernel
theorem dX10_takeSign_77 : decode cX10_takeSign 77 = .ok (.aload_n 0, 1) := by decide +kernel
theorem dX10_takeSign_78 : decode cX10_takeSign 78 = .ok (.iconst 1, 1) := by decide +kernel
theorem dX10_takeSign_79 : decode cX10_takeSign 79 = .ok (.putfield 89, 3) := by decide +kernel
theorem dX10_takeSign_82 : decode cX10_takeSign 82 = .ok (.iconst 1, 1) := by decide +kernel
theorem dX10_takeSign_83 : decode cX10_takeSign 83 = .ok (.ireturn, 1) := by decide +kernel
theorem dX10_ended_0 : decode cX10_ended 0 = .ok (.aload_n 0, 1) := by decide +kernel
theorem dX10_ended_1 : decode cX10_ended 1 = .ok (.dup, 1) := by decide +kernel
theorem dX10_ended_2 : decode cX10_ended 2 = .ok (.getfield 86, 3) := by decide +kernel
theorem dX10_ended_5 : decode cX10_ended 5 = .ok (.iconst 1, 1) := by decide +kernel
theorem dX10_ended_6 : decode cX10_ended 6 = .ok (.iadd, 1) := by decide +kernel
theorem dX10_ended_7 : decode cX10_ended 7 = .ok (.putfield 86, 3) := by decide +kernel
theorem dX10_ended_10 : decode cX10_ended 10 = .ok (.aload_n 0, 1) := by decide +kernel
theorem dX10_ended_11 : decode cX10_ended 11 = .ok (.iconst 0, 1) := by decide +kernel
theorem dX10_ended_12 : decode cX10_ended 12 = .ok (.putfield 89, 3) := by decide +kernel
theorem dX10_ended_15 : decode cX10_ended 15 = .ok (.iload_n 1, 1) := by decide +kernel
theorem dX10_ended_16 : decode cX10_ended 16 = .ok (.ireturn, 1) := by decide +kernel
theorem dX10_takeFar_0 : decode cX10_takeFar 0 = .ok (.aload_n 0, 1) := by decide +kernel
theorem dX10_takeFar_1 : decode cX10_takeFar 1 = .ok (.getfield 92, 3) := by decide +kernel
theorem dX10_takeFar_4 : decode cX10_takeFar 4 = .ok (.ifCond .ne 36, 3) := by decide +kernel
theorem dX10_takeFar_7 : decode cX10_takeFar 7 = .ok (.aload_n 0, 1) := by decide +kernel
theorem dX10_takeFar_8 : decode cX10_takeFar 8 = .ok (.iload_n 1, 1) := by decide +kernel
theorem dX10_takeFar_9 : decode cX10_takeFar 9 = .ok (.bipush 43, 2) := by decide +kernel
theorem dX10_takeFar_11 : decode cX10_takeFar 11 = .ok (.if_icmp .ne 7, 3) := by decide +kernel
theorem dX10_takeFar_14 : decode cX10_takeFar 14 = .ok (.iconst 1, 1) := by decide +kernel
theorem dX10_takeFar_15 : decode cX10_takeFar 15 = .ok (.goto 4, 3) := by decide +kernel
theorem dX10_takeFar_18 : decode cX10_takeFar 18 = .ok (.iconst (-1), 1) := by decide +kernel
theorem dX10_takeFar_19 : decode cX10_takeFar 19 = .ok (.putfield 92, 3) := by decide +kernel
theorem dX10_takeFar_22 : decode cX10_takeFar 22 = .ok (.iload_n 1, 1) := by decide +kernel
theorem dX10_takeFar_23 : decode cX10_takeFar 23 = .ok (.bipush 43, 2) := by decide +kernel
theorem dX10_takeFar_25 : decode cX10_takeFar 25 = .ok (.if_icmp .eq 9, 3) := by decide +kernel
theorem dX10_takeFar_28 : decode cX10_takeFar 28 = .ok (.iload_n 1, 1) := by decide +kernel
theorem dX10_takeFar_29 : decode cX10_takeFar 29 = .ok (.bipush 45, 2) := by decide +kernel
theorem dX10_takeFar_31 : decode cX10_takeFar 31 = .ok (.if_icmp .ne 7, 3) := by decide +kernel
theorem dX10_takeFar_34 : decode cX10_takeFar 34 = .ok (.iconst 1, 1) := by decide +kernel
theorem dX10_takeFar_35 : decode cX10_takeFar 35 = .ok (.goto 4, 3) := by decide +kernel
theorem dX10_takeFar_38 : decode cX10_takeFar 38 = .ok (.iconst 0, 1) := by decide +kernel
theorem dX10_takeFar_39 : decode cX10_takeFar 39 = .ok (.ireturn, 1) := by decide +kernel
theorem dX10_takeFar_40 : decode cX10_takeFar 40 = .ok (.aload_n 0, 1) := by decide +kernel
theorem dX10_takeFar_41 : decode cX10_takeFar 41 = .ok (.getfield 59, 3) := by decide +kernel
theorem dX10_takeFar_44 : decode cX10_takeFar 44 = .ok (.aload_n 0, 1) := by decide +kernel
theorem dX10_takeFar_45 : decode cX10_takeFar 45 = .ok (.getfield 86, 3) := by decide +kernel
theorem dX10_takeFar_48 : decode cX10_takeFar 48 = .ok (.aload_n 0, 1) := by decide +kernel
theorem dX10_takeFar_49 : decode cX10_takeFar 49 = .ok (.getfield 92, 3) := by decide +kernel
theorem dX10_takeFar_52 : decode cX10_takeFar 52 = .ok (.iload_n 1, 1) := by decide +kernel
theorem dX10_takeFar_53 : decode cX10_takeFar 53 = .ok (.bipush 48, 2) := by decide +kernel
theorem dX10_takeFar_55 : decode cX10_takeFar 55 = .ok (.isub, 1) := by decide +kernel
theorem dX10_takeFar_56 : decode cX10_takeFar 56 = .ok (.imul, 1) := by decide +kernel
theorem dX10_takeFar_57 : decode cX10_takeFar 57 = .ok (.iastore, 1) := by decide +kernel
theorem dX10_takeFar_58 : decode cX10_takeFar 58 = .ok (.aload_n 0, 1) := by decide +kernel
theorem dX10_takeFar_59 : decode cX10_takeFar 59 = .ok (.iconst 0, 1) := by decide +kernel
theorem dX10_takeFar_60 : decode cX10_takeFar 60 = .ok (.putfield 92, 3) := by decide +kernel
theorem dX10_takeFar_63 : decode cX10_takeFar 63 = .ok (.aload_n 0, 1) := by decide +kernel
theorem dX10_takeFar_64 : decode cX10_takeFar 64 = .ok (.iload_n 1, 1) := by decide +kernel
theorem dX10_takeFar_65 : decode cX10_takeFar 65 = .ok (.i2l, 1) := by decide +kernel
theorem dX10_takeFar_66 : decode cX10_takeFar 66 = .ok (.ldc2_w 95, 3) := by decide +kernel
theorem dX10_takeFar_69 : decode cX10_takeFar 69 = .ok (.ldc2_w 97, 3) := by decide +kernel
theorem dX10_takeFar_72 : decode cX10_takeFar 72 = .ok (.invokestatic 73, 3) := by decide +kernel
theorem dX10_takeFar_75 : decode cX10_takeFar 75 = .ok (.invokevirtual 99, 3) := by decide +kernel
theorem dX10_takeFar_78 : decode cX10_takeFar 78 = .ok (.ireturn, 1) := by decide +kernel
theorem dX10_takeCall_0 : decode cX10_takeCall 0 = .ok (.aload_n 0, 1) := by decide +kernel
theorem dX10_takeCall_1 : decode cX10_takeCall 1 = .ok (.getfield 89, 3) := by decide +kernel
theorem dX10_takeCall_4 : decode cX10_takeCall 4 = .ok (.iconst 1, 1) := by decide +kernel
theorem dX10_takeCall_5 : decode cX10_takeCall 5 = .ok (.if_icmp .ne 26, 3) := by decide +kernel
theorem dX10_takeCall_8 : decode cX10_takeCall 8 = .ok (.aload_n 0, 1) := by decide +kernel
theorem dX10_takeCall_9 : decode cX10_takeCall 9 = .ok (.getfield 56, 3) := by decide +kernel
theorem dX10_takeCall_12 : decode cX10_takeCall 12 = .ok (.aload_n 0, 1) := by decide +kernel
theorem dX10_takeCall_13 : decode cX10_takeCall 13 = .ok (.getfield 86, 3) := by decide +kernel
theorem dX10_takeCall_16 : decode cX10_takeCall 16 = .ok (.iload_n 1, 1) := by decide +kernel
theorem dX10_takeCall_17 : decode cX10_takeCall 17 = .ok (.iastore, 1) := by decide +kernel
theorem dX10_takeCall_18 : decode cX10_takeCall 18 = .ok (.aload_n 0, 1) := by decide +kernel
theorem dX10_takeCall_19 : decode cX10_takeCall 19 = .ok (.iconst 2, 1) := by decide +kernel
theorem dX10_takeCall_20 : decode cX10_takeCall 20 = .ok (.putfield 89, 3) := by decide +kernel
theorem dX10_takeCall_23 : decode cX10_takeCall 23 = .ok (.iload_n 1, 1) := by decide +kernel
theorem dX10_takeCall_24 : decode cX10_takeCall 24 = .ok (.i2l, 1) := by decide +kernel
theorem dX10_takeCall_25 : decode cX10_takeCall 25 = .ok (.lconst 0, 1) := by decide +kernel
theorem dX10_takeCall_26 : decode cX10_takeCall 26 = .ok (.lconst 1, 1) := by decide +kernel
theorem dX10_takeCall_27 : decode cX10_takeCall 27 = .ok (.invokestatic 73, 3) := by decide +kernel
theorem dX10_takeCall_30 : decode cX10_takeCall 30 = .ok (.ireturn, 1) := by decide +kernel
theorem dX10_takeCall_31 : decode cX10_takeCall 31 = .ok (.aload_n 0, 1) := by decide +kernel
theorem dX10_takeCall_32 : decode cX10_takeCall 32 = .ok (.getfield 56, 3) := by decide +kernel
theorem dX10_takeCall_35 : decode cX10_takeCall 35 = .ok (.aload_n 0, 1) := by decide +kernel
theorem dX10_takeCall_36 : decode cX10_takeCall 36 = .ok (.getfield 86, 3) := by decide +kernel
theorem dX10_takeCall_39 : decode cX10_takeCall 39 = .ok (.iaload, 1) := by decide +kernel
theorem dX10_takeCall_40 : decode cX10_takeCall 40 = .ok (.istore_n 2, 1) := by decide +kernel
theorem dX10_takeCall_41 : decode cX10_takeCall 41 = .ok (.aload_n 0, 1) := by decide +kernel
theorem dX10_takeCall_42 : decode cX10_takeCall 42 = .ok (.getfield 56, 3) := by decide +kernel
theorem dX10_takeCall_45 : decode cX10_takeCall 45 = .ok (.aload_n 0, 1) := by decide +kernel
theorem dX10_takeCall_46 : decode cX10_takeCall 46 = .ok (.getfield 86, 3) := by decide +kernel
theorem dX10_takeCall_49 : decode cX10_takeCall 49 = .ok (.bipush 10, 2) := by decide +kernel
theorem dX10_takeCall_51 : decode cX10_takeCall 51 = .ok (.iload_n 2, 1) := by decide +kernel
theorem dX10_takeCall_52 : decode cX10_takeCall 52 = .ok (.imul, 1) := by decide +kernel
theorem dX10_takeCall_53 : decode cX10_takeCall 53 = .ok (.iload_n 1, 1) := by decide +kernel
theorem dX10_takeCall_54 : decode cX10_takeCall 54 = .ok (.iadd, 1) := by decide +kernel
theorem dX10_takeCall_55 : decode cX10_takeCall 55 = .ok (.iastore, 1) := by decide +kernel
theorem dX10_takeCall_56 : decode cX10_takeCall 56 = .ok (.aload_n 0, 1) := by decide +kernel
theorem dX10_takeCall_57 : decode cX10_takeCall 57 = .ok (.iload_n 1, 1) := by decide +kernel
theorem dX10_takeCall_58 : decode cX10_takeCall 58 = .ok (.i2l, 1) := by decide +kernel
theorem dX10_takeCall_59 : decode cX10_takeCall 59 = .ok (.lconst 0, 1) := by decide +kernel
theorem dX10_takeCall_60 : decode cX10_takeCall 60 = .ok (.iload_n 2, 1) := by decide +kernel
theorem dX10_takeCall_61 : decode cX10_takeCall 61 = .ok (.ifCond .ne 9, 3) := by decide +kernel
theorem dX10_takeCall_64 : decode cX10_takeCall 64 = .ok (.ldc2_w 103, 3) := by decide +kernel
theorem dX10_takeCall_67 : decode cX10_takeCall 67 = .ok (.goto 6, 3) := by decide +kernel
theorem dX10_takeCall_70 : decode cX10_takeCall 70 = .ok (.ldc2_w 105, 3) := by decide +kernel
theorem dX10_takeCall_73 : decode cX10_takeCall 73 = .ok (.invokestatic 73, 3) := by decide +kernel
theorem dX10_takeCall_76 : decode cX10_takeCall 76 = .ok (.invokevirtual 99, 3) := by decide +kernel
theorem dX10_takeCall_79 : decode cX10_takeCall 79 = .ok (.ireturn, 1) := by decide +kernel
theorem dX10_takeFirst_0 : decode cX10_takeFirst 0 = .ok (.aload_n 0, 1) := by decide +kernel
theorem dX10_takeFirst_1 : decode cX10_takeFirst 1 = .ok (.getfield 56, 3) := by decide +kernel
theorem dX10_takeFirst_4 : decode cX10_takeFirst 4 = .ok (.aload_n 0, 1) := by decide +kernel
theorem dX10_takeFirst_5 : decode cX10_takeFirst 5 = .ok (.getfield 86, 3) := by decide +kernel
theorem dX10_takeFirst_8 : decode cX10_takeFirst 8 = .ok (.iload_n 2, 1) := by decide +kernel
theorem dX10_takeFirst_9 : decode cX10_takeFirst 9 = .ok (.iastore, 1) := by decide +kernel
theorem dX10_takeFirst_10 : decode cX10_takeFirst 10 = .ok (.iload_n 1, 1) := by decide +kernel
theorem dX10_takeFirst_11 : decode cX10_takeFirst 11 = .ok (.bipush 9, 2) := by decide +kernel
theorem dX10_takeFirst_13 : decode cX10_takeFirst 13 = .ok (.if_icmp .eq 9, 3) := by decide +kernel
theorem dX10_takeFirst_16 : decode cX10_takeFirst 16 = .ok (.iload_n 1, 1) := by decide +kernel
theorem dX10_takeFirst_17 : decode cX10_takeFirst 17 = .ok (.bipush 10, 2) := by decide +kernel
theorem dX10_takeFirst_19 : decode cX10_takeFirst 19 = .ok (.if_icmp .ne 17, 3) := by decide +kernel
theorem dX10_takeFirst_22 : decode cX10_takeFirst 22 = .ok (.aload_n 0, 1) := by decide +kernel
theorem dX10_takeFirst_23 : decode cX10_takeFirst 23 = .ok (.iload_n 2, 1) := by decide +kernel
theorem dX10_takeFirst_24 : decode cX10_takeFirst 24 = .ok (.i2l, 1) := by decide +kernel
theorem dX10_takeFirst_25 : decode cX10_takeFirst 25 = .ok (.lconst 0, 1) := by decide +kernel
theorem dX10_takeFirst_26 : decode cX10_takeFirst 26 = .ok (.ldc2_w 107, 3) := by decide +kernel
theorem dX10_takeFirst_29 : decode cX10_takeFirst 29 = .ok (.invokestatic 73, 3) := by decide +kernel
theorem dX10_takeFirst_32 : decode cX10_takeFirst 32 = .ok (.invokevirtual 99, 3) := by decide +kernel
theorem dX10_takeFirst_35 : decode cX10_takeFirst 35 = .ok (.ireturn, 1) := by decide +kernel
theorem dX10_takeFirst_36 : decode cX10_takeFirst 36 = .ok (.aload_n 0, 1) := by decide +kernel
theorem dX10_takeFirst_37 : decode cX10_takeFirst 37 = .ok (.iconst 2, 1) := by decide +kernel
theorem dX10_takeFirst_38 : decode cX10_takeFirst 38 = .ok (.putfield 89, 3) := by decide +kernel
theorem dX10_takeFirst_41 : decode cX10_takeFirst 41 = .ok (.iload_n 2, 1) := by decide +kernel
theorem dX10_takeFirst_42 : decode cX10_takeFirst 42 = .ok (.i2l, 1) := by decide +kernel
theorem dX10_takeFirst_43 : decode cX10_takeFirst 43 = .ok (.lconst 0, 1) := by decide +kernel
theorem dX10_takeFirst_44 : decode cX10_takeFirst 44 = .ok (.ldc2_w 107, 3) := by decide +kernel
theorem dX10_takeFirst_47 : decode cX10_takeFirst 47 = .ok (.invokestatic 73, 3) := by decide +kernel
theorem dX10_takeFirst_50 : decode cX10_takeFirst 50 = .ok (.ireturn, 1) := by decide +kernel
theorem dX10_takeOf_0 : decode cX10_takeOf 0 = .ok (.aload_n 0, 1) := by decide +kernel
theorem dX10_takeOf_1 : decode cX10_takeOf 1 = .ok (.getfield 53, 3) := by decide +kernel
theorem dX10_takeOf_4 : decode cX10_takeOf 4 = .ok (.aload_n 0, 1) := by decide +kernel
theorem dX10_takeOf_5 : decode cX10_takeOf 5 = .ok (.getfield 86, 3) := by decide +kernel
theorem dX10_takeOf_8 : decode cX10_takeOf 8 = .ok (.iaload, 1) := by decide +kernel
theorem dX10_takeOf_9 : decode cX10_takeOf 9 = .ok (.istore_n 2, 1) := by decide +kernel
theorem dX10_takeOf_10 : decode cX10_takeOf 10 = .ok (.iload_n 1, 1) := by decide +kernel
theorem dX10_takeOf_11 : decode cX10_takeOf 11 = .ok (.bipush 48, 2) := by decide +kernel
theorem dX10_takeOf_13 : decode cX10_takeOf 13 = .ok (.isub, 1) := by decide +kernel
theorem dX10_takeOf_14 : decode cX10_takeOf 14 = .ok (.istore_n 3, 1) := by decide +kernel
theorem dX10_takeOf_15 : decode cX10_takeOf 15 = .ok (.iload_n 2, 1) := by decide +kernel
theorem dX10_takeOf_16 : decode cX10_takeOf 16 = .ok (.iconst 5, 1) := by decide +kernel
theorem dX10_takeOf_17 : decode cX10_takeOf 17 = .ok (.if_icmp .eq 17, 3) := by decide +kernel
theorem dX10_takeOf_20 : decode cX10_takeOf 20 = .ok (.iload_n 2, 1) := by decide +kernel
theorem dX10_takeOf_21 : decode cX10_takeOf 21 = .ok (.bipush 6, 2) := by decide +kernel
theorem dX10_takeOf_23 : decode cX10_takeOf 23 = .ok (.if_icmp .ne 17, 3) := by decide +kernel
theorem dX10_takeOf_26 : decode cX10_takeOf 26 = .ok (.aload_n 0, 1) := by decide +kernel
theorem dX10_takeOf_27 : decode cX10_takeOf 27 = .ok (.getfield 89, 3) := by decide +kernel
theorem dX10_takeOf_30 : decode cX10_takeOf 30 = .ok (.iconst 2, 1) := by decide +kernel
theorem dX10_takeOf_31 : decode cX10_takeOf 31 = .ok (.if_icmp .ne 9, 3) := by decide +kernel
theorem dX10_takeOf_34 : decode cX10_takeOf 34 = .ok (.aload_n 0, 1) := by decide +kernel
theorem dX10_takeOf_35 : decode cX10_takeOf 35 = .ok (.iload_n 1, 1) := by decide +kernel
theorem dX10_takeOf_36 : decode cX10_takeOf 36 = .ok (.invokevirtual 109, 3) := by decide +kernel
theorem dX10_takeOf_39 : decode cX10_takeOf 39 = .ok (.ireturn, 1) := by decide +kernel
theorem dX10_takeOf_40 : decode cX10_takeOf 40 = .ok (.iload_n 2, 1) := by decide +kernel
theorem dX10_takeOf_41 : decode cX10_takeOf 41 = .ok (.bipush 7, 2) := by decide +kernel
theorem dX10_takeOf_43 : decode cX10_takeOf 43 = .ok (.if_icmp .ne 9, 3) := by decide +kernel
theorem dX10_takeOf_46 : decode cX10_takeOf 46 = .ok (.aload_n 0, 1) := by decide +kernel
theorem dX10_takeOf_47 : decode cX10_takeOf 47 = .ok (.iload_n 3, 1) := by decide +kernel
theorem dX10_takeOf_48 : decode cX10_takeOf 48 = .ok (.invokevirtual 113, 3) := by decide +kernel
theorem dX10_takeOf_51 : decode cX10_takeOf 51 = .ok (.ireturn, 1) := by decide +kernel
theorem dX10_takeOf_52 : decode cX10_takeOf 52 = .ok (.aload_n 0, 1) := by decide +kernel
theorem dX10_takeOf_53 : decode cX10_takeOf 53 = .ok (.getfield 89, 3) := by decide +kernel
theorem dX10_takeOf_56 : decode cX10_takeOf 56 = .ok (.iconst 1, 1) := by decide +kernel
theorem dX10_takeOf_57 : decode cX10_takeOf 57 = .ok (.if_icmp .ne 10, 3) := by decide +kernel
theorem dX10_takeOf_60 : decode cX10_takeOf 60 = .ok (.aload_n 0, 1) := by decide +kernel
theorem dX10_takeOf_61 : decode cX10_takeOf 61 = .ok (.iload_n 2, 1) := by decide +kernel
theorem dX10_takeOf_62 : decode cX10_takeOf 62 = .ok (.iload_n 3, 1) := by decide +kernel
theorem dX10_takeOf_63 : decode cX10_takeOf 63 = .ok (.invokevirtual 116, 3) := by decide +kernel
theorem dX10_takeOf_66 : decode cX10_takeOf 66 = .ok (.ireturn, 1) := by decide +kernel
theorem dX10_takeOf_67 : decode cX10_takeOf 67 = .ok (.aload_n 0, 1) := by decide +kernel
theorem dX10_takeOf_68 : decode cX10_takeOf 68 = .ok (.getfield 59, 3) := by decide +kernel
theorem dX10_takeOf_71 : decode cX10_takeOf 71 = .ok (.aload_n 0, 1) := by decide +kernel
theorem dX10_takeOf_72 : decode cX10_takeOf 72 = .ok (.getfield 86, 3) := by decide +kernel
theorem dX10_takeOf_75 : decode cX10_takeOf 75 = .ok (.iload_n 3, 1) := by decide +kernel
theorem dX10_takeOf_76 : decode cX10_takeOf 76 = .ok (.iastore, 1) := by decide +kernel
theorem dX10_takeOf_77 : decode cX10_takeOf 77 = .ok (.aload_n 0, 1) := by decide +kernel
theorem dX10_takeOf_78 : decode cX10_takeOf 78 = .ok (.iload_n 3, 1) := by decide +kernel
theorem dX10_takeOf_79 : decode cX10_takeOf 79 = .ok (.i2l, 1) := by decide +kernel
theorem dX10_takeOf_80 : decode cX10_takeOf 80 = .ok (.lconst 0, 1) := by decide +kernel
theorem dX10_takeOf_81 : decode cX10_takeOf 81 = .ok (.iload_n 2, 1) := by decide +kernel
theorem dX10_takeOf_82 : decode cX10_takeOf 82 = .ok (.ifCond .ne 9, 3) := by decide +kernel
theorem dX10_takeOf_85 : decode cX10_takeOf 85 = .ok (.ldc2_w 103, 3) := by decide +kernel
theorem dX10_takeOf_88 : decode cX10_takeOf 88 = .ok (.goto 22, 3) := by decide +kernel
theorem dX10_takeOf_91 : decode cX10_takeOf 91 = .ok (.iload_n 2, 1) := by decide +kernel
theorem dX10_takeOf_92 : decode cX10_takeOf 92 = .ok (.iconst 1, 1) := by decide +kernel
theorem dX10_takeOf_93 : decode cX10_takeOf 93 = .ok (.if_icmp .eq 8, 3) := by decide +kernel
theorem dX10_takeOf_96 : decode cX10_takeOf 96 = .ok (.iload_n 2, 1) := by decide +kernel
theorem dX10_takeOf_97 : decode cX10_takeOf 97 = .ok (.iconst 2, 1) := by decide +kernel
theorem dX10_takeOf_98 : decode cX10_takeOf 98 = .ok (.if_icmp .ne 9, 3) := by decide +kernel
theorem dX10_takeOf_101 : decode cX10_takeOf 101 = .ok (.ldc2_w 107, 3) := by decide +kernel
theorem dX10_takeOf_104 : decode cX10_takeOf 104 = .ok (.goto 6, 3) := by decide +kernel
theorem dX10_takeOf_107 : decode cX10_takeOf 107 = .ok (.ldc2_w 120, 3) := by decide +kernel
theorem dX10_takeOf_110 : decode cX10_takeOf 110 = .ok (.invokestatic 73, 3) := by decide +kernel
theorem dX10_takeOf_113 : decode cX10_takeOf 113 = .ok (.invokevirtual 99, 3) := by decide +kernel
theorem dX10_takeOf_116 : decode cX10_takeOf 116 = .ok (.ireturn, 1) := by decide +kernel
theorem dX10_readText_0 : decode cX10_readText 0 = .ok (.aload_n 0, 1) := by decide +kernel
theorem dX10_readText_1 : decode cX10_readText 1 = .ok (.iconst 0, 1) := by decide +kernel
theorem dX10_readText_2 : decode cX10_readText 2 = .ok (.putfield 86, 3) := by decide +kernel
theorem dX10_readText_5 : decode cX10_readText 5 = .ok (.aload_n 0, 1) := by decide +kernel
theorem dX10_readText_6 : decode cX10_readText 6 = .ok (.iconst 0, 1) := by decide +kernel
theorem dX10_readText_7 : decode cX10_readText 7 = .ok (.putfield 89, 3) := by decide +kernel
theorem dX10_readText_10 : decode cX10_readText 10 = .ok (.aload_n 0, 1) := by decide +kernel
theorem dX10_readText_11 : decode cX10_readText 11 = .ok (.iconst 0, 1) := by decide +kernel
theorem dX10_readText_12 : decode cX10_readText 12 = .ok (.putfield 92, 3) := by decide +kernel
theorem dX10_readText_15 : decode cX10_readText 15 = .ok (.aload_n 0, 1) := by decide +kernel
theorem dX10_readText_16 : decode cX10_readText 16 = .ok (.getfield 79, 3) := by decide +kernel
theorem dX10_readText_19 : decode cX10_readText 19 = .ok (.ifCond .eq 14, 3) := by decide +kernel
theorem dX10_readText_22 : decode cX10_readText 22 = .ok (.aload_n 0, 1) := by decide +kernel
theorem dX10_readText_23 : decode cX10_readText 23 = .ok (.getfield 7, 3) := by decide +kernel
theorem dX10_readText_26 : decode cX10_readText 26 = .ok (.iconst 0, 1) := by decide +kernel
theorem dX10_readText_27 : decode cX10_readText 27 = .ok (.iaload, 1) := by decide +kernel
theorem dX10_readText_28 : decode cX10_readText 28 = .ok (.bipush 67, 2) := by decide +kernel
theorem dX10_readText_30 : decode cX10_readText 30 = .ok (.if_icmp .eq 5, 3) := by decide +kernel
theorem dX10_readText_33 : decode cX10_readText 33 = .ok (.iconst 0, 1) := by decide +kernel
theorem dX10_readText_34 : decode cX10_readText 34 = .ok (.ireturn, 1) := by decide +kernel
theorem dX10_readText_35 : decode cX10_readText 35 = .ok (.iconst 1, 1) := by decide +kernel
theorem dX10_readText_36 : decode cX10_readText 36 = .ok (.istore_n 1, 1) := by decide +kernel
theorem dX10_readText_37 : decode cX10_readText 37 = .ok (.iload_n 1, 1) := by decide +kernel
theorem dX10_readText_38 : decode cX10_readText 38 = .ok (.aload_n 0, 1) := by decide +kernel
theorem dX10_readText_39 : decode cX10_readText 39 = .ok (.getfield 79, 3) := by decide +kernel
theorem dX10_readText_42 : decode cX10_readText 42 = .ok (.if_icmp .ge 47, 3) := by decide +kernel
theorem dX10_readText_45 : decode cX10_readText 45 = .ok (.aload_n 0, 1) := by decide +kernel
theorem dX10_readText_46 : decode cX10_readText 46 = .ok (.getfield 89, 3) := by decide +kernel
theorem dX10_readText_49 : decode cX10_readText 49 = .ok (.ifCond .ne 19, 3) := by decide +kernel
theorem dX10_readText_52 : decode cX10_readText 52 = .ok (.aload_n 0, 1) := by decide +kernel
theorem dX10_readText_53 : decode cX10_readText 53 = .ok (.aload_n 0, 1) := by decide +kernel
theorem dX10_readText_54 : decode cX10_readText 54 = .ok (.getfield 7, 3) := by decide +kernel
theorem dX10_readText_57 : decode cX10_readText 57 = .ok (.iload_n 1, 1) := by decide +kernel
theorem dX10_readText_58 : decode cX10_readText 58 = .ok (.iaload, 1) := by decide +kernel
theorem dX10_readText_59 : decode cX10_readText 59 = .ok (.invokevirtual 122, 3) := by decide +kernel
theorem dX10_readText_62 : decode cX10_readText 62 = .ok (.ifCond .eq 19, 3) := by decide +kernel
theorem dX10_readText_65 : decode cX10_readText 65 = .ok (.goto 18, 3) := by decide +kernel
theorem dX10_readText_68 : decode cX10_readText 68 = .ok (.aload_n 0, 1) := by decide +kernel
theorem dX10_readText_69 : decode cX10_readText 69 = .ok (.aload_n 0, 1) := by decide +kernel
theorem dX10_readText_70 : decode cX10_readText 70 = .ok (.getfield 7, 3) := by decide +kernel
theorem dX10_readText_73 : decode cX10_readText 73 = .ok (.iload_n 1, 1) := by decide +kernel
theorem dX10_readText_74 : decode cX10_readText 74 = .ok (.iaload, 1) := by decide +kernel
theorem dX10_readText_75 : decode cX10_readText 75 = .ok (.invokevirtual 125, 3) := by decide +kernel
theorem dX10_readText_78 : decode cX10_readText 78 = .ok (.ifCond .ne 5, 3) := by decide +kernel
theorem dX10_readText_81 : decode cX10_readText 81 = .ok (.iload_n 1, 1) := by decide +kernel
theorem dX10_readText_82 : decode cX10_readText 82 = .ok (.ireturn, 1) := by decide +kernel
theorem dX10_readText_83 : decode cX10_readText 83 = .ok (.iinc 1 1, 3) := by decide +kernel
theorem dX10_readText_86 : decode cX10_readText 86 = .ok (.goto (-49), 3) := by decide +kernel
theorem dX10_readText_89 : decode cX10_readText 89 = .ok (.aload_n 0, 1) := by decide +kernel
theorem dX10_readText_90 : decode cX10_readText 90 = .ok (.getfield 89, 3) := by decide +kernel
theorem dX10_readText_93 : decode cX10_readText 93 = .ok (.ifCond .ne 8, 3) := by decide +kernel
theorem dX10_readText_96 : decode cX10_readText 96 = .ok (.bipush (-9), 2) := by decide +kernel
theorem dX10_readText_98 : decode cX10_readText 98 = .ok (.goto 7, 3) := by decide +kernel
theorem dX10_readText_101 : decode cX10_readText 101 = .ok (.aload_n 0, 1) := by decide +kernel
theorem dX10_readText_102 : decode cX10_readText 102 = .ok (.getfield 79, 3) := by decide +kernel
theorem dX10_readText_105 : decode cX10_readText 105 = .ok (.ireturn, 1) := by decide +kernel
theorem dX10_fault_0 : decode cX10_fault 0 = .ok (.aload_n 0, 1) := by decide +kernel
theorem dX10_fault_1 : decode cX10_fault 1 = .ok (.invokevirtual 128, 3) := by decide +kernel
theorem dX10_fault_4 : decode cX10_fault 4 = .ok (.ireturn, 1) := by decide +kernel
theorem dX10_code_0 : decode cX10_code 0 = .ok (.aload_n 0, 1) := by decide +kernel
theorem dX10_code_1 : decode cX10_code 1 = .ok (.invokevirtual 128, 3) := by decide +kernel
theorem dX10_code_4 : decode cX10_code 4 = .ok (.bipush (-9), 2) := by decide +kernel
theorem dX10_code_6 : decode cX10_code 6 = .ok (.if_icmp .eq 6, 3) := by decide +kernel
theorem dX10_code_9 : decode cX10_code 9 = .ok (.bipush (-3), 2) := by decide +kernel
theorem dX10_code_11 : decode cX10_code 11 = .ok (.ireturn, 1) := by decide +kernel
theorem dX10_code_12 : decode cX10_code 12 = .ok (.aload_n 0, 1) := by decide +kernel
theorem dX10_code_13 : decode cX10_code 13 = .ok (.getfield 22, 3) := by decide +kernel
theorem dX10_code_16 : decode cX10_code 16 = .ok (.invokestatic 66, 3) := by decide +kernel
theorem dX10_code_19 : decode cX10_code 19 = .ok (.aload_n 0, 1) := by decide +kernel
theorem dX10_code_20 : decode cX10_code 20 = .ok (.aload_n 0, 1) := by decide +kernel
theorem dX10_code_21 : decode cX10_code 21 = .ok (.getfield 86, 3) := by decide +kernel
theorem dX10_code_24 : decode cX10_code 24 = .ok (.putfield 70, 3) := by decide +kernel
theorem dX10_code_27 : decode cX10_code 27 = .ok (.iconst 0, 1) := by decide +kernel
theorem dX10_code_28 : decode cX10_code 28 = .ok (.istore_n 1, 1) := by decide +kernel
theorem dX10_code_29 : decode cX10_code 29 = .ok (.iload_n 1, 1) := by decide +kernel
theorem dX10_code_30 : decode cX10_code 30 = .ok (.aload_n 0, 1) := by decide +kernel
theorem dX10_code_31 : decode cX10_code 31 = .ok (.getfield 70, 3) := by decide +kernel
theorem dX10_code_34 : decode cX10_code 34 = .ok (.if_icmp .ge 45, 3) := by decide +kernel
theorem dX10_code_37 : decode cX10_code 37 = .ok (.aload_n 0, 1) := by decide +kernel
theorem dX10_code_38 : decode cX10_code 38 = .ok (.getfield 13, 3) := by decide +kernel
theorem dX10_code_41 : decode cX10_code 41 = .ok (.iload_n 1, 1) := by decide +kernel
theorem dX10_code_42 : decode cX10_code 42 = .ok (.aload_n 0, 1) := by decide +kernel
theorem dX10_code_43 : decode cX10_code 43 = .ok (.getfield 53, 3) := by decide +kernel
theorem dX10_code_46 : decode cX10_code 46 = .ok (.iload_n 1, 1) := by decide +kernel
theorem dX10_code_47 : decode cX10_code 47 = .ok (.iaload, 1) := by decide +kernel
theorem dX10_code_48 : decode cX10_code 48 = .ok (.iastore, 1) := by decide +kernel
theorem dX10_code_49 : decode cX10_code 49 = .ok (.aload_n 0, 1) := by decide +kernel
theorem dX10_code_50 : decode cX10_code 50 = .ok (.getfield 16, 3) := by decide +kernel
theorem dX10_code_53 : decode cX10_code 53 = .ok (.iload_n 1, 1) := by decide +kernel
theorem dX10_code_54 : decode cX10_code 54 = .ok (.aload_n 0, 1) := by decide +kernel
theorem dX10_code_55 : decode cX10_code 55 = .ok (.getfield 56, 3) := by decide +kernel
theorem dX10_code_58 : decode cX10_code 58 = .ok (.iload_n 1, 1) := by decide +kernel
theorem dX10_code_59 : decode cX10_code 59 = .ok (.iaload, 1) := by decide +kernel
theorem dX10_code_60 : decode cX10_code 60 = .ok (.iastore, 1) := by decide +kernel
theorem dX10_code_61 : decode cX10_code 61 = .ok (.aload_n 0, 1) := by decide +kernel
theorem dX10_code_62 : decode cX10_code 62 = .ok (.getfield 19, 3) := by decide +kernel
theorem dX10_code_65 : decode cX10_code 65 = .ok (.iload_n 1, 1) := by decide +kernel
theorem dX10_code_66 : decode cX10_code 66 = .ok (.aload_n 0, 1) := by decide +kernel
theorem dX10_code_67 : decode cX10_code 67 = .ok (.getfield 59, 3) := by decide +kernel
theorem dX10_code_70 : decode cX10_code 70 = .ok (.iload_n 1, 1) := by decide +kernel
theorem dX10_code_71 : decode cX10_code 71 = .ok (.iaload, 1) := by decide +kernel
theorem dX10_code_72 : decode cX10_code 72 = .ok (.iastore, 1) := by decide +kernel
theorem dX10_code_73 : decode cX10_code 73 = .ok (.iinc 1 1, 3) := by decide +kernel
theorem dX10_code_76 : decode cX10_code 76 = .ok (.goto (-47), 3) := by decide +kernel
theorem dX10_code_79 : decode cX10_code 79 = .ok (.aload_n 0, 1) := by decide +kernel
theorem dX10_code_80 : decode cX10_code 80 = .ok (.iconst 0, 1) := by decide +kernel
theorem dX10_code_81 : decode cX10_code 81 = .ok (.putfield 132, 3) := by decide +kernel
theorem dX10_code_84 : decode cX10_code 84 = .ok (.aload_n 0, 1) := by decide +kernel
theorem dX10_code_85 : decode cX10_code 85 = .ok (.getfield 34, 3) := by decide +kernel
theorem dX10_code_88 : decode cX10_code 88 = .ok (.iconst 0, 1) := by decide +kernel
theorem dX10_code_89 : decode cX10_code 89 = .ok (.iconst 0, 1) := by decide +kernel
theorem dX10_code_90 : decode cX10_code 90 = .ok (.bastore, 1) := by decide +kernel
theorem dX10_code_91 : decode cX10_code 91 = .ok (.aload_n 0, 1) := by decide +kernel
theorem dX10_code_92 : decode cX10_code 92 = .ok (.getfield 34, 3) := by decide +kernel
theorem dX10_code_95 : decode cX10_code 95 = .ok (.iconst 1, 1) := by decide +kernel
theorem dX10_code_96 : decode cX10_code 96 = .ok (.iconst 0, 1) := by decide +kernel
theorem dX10_code_97 : decode cX10_code 97 = .ok (.bastore, 1) := by decide +kernel
theorem dX10_code_98 : decode cX10_code 98 = .ok (.aload_n 0, 1) := by decide +kernel
theorem dX10_code_99 : decode cX10_code 99 = .ok (.getfield 70, 3) := by decide +kernel
theorem dX10_code_102 : decode cX10_code 102 = .ok (.ireturn, 1) := by decide +kernel
theorem dX10_doesFault_0 : decode cX10_doesFault 0 = .ok (.aload_n 0, 1) := by decide +kernel
theorem dX10_doesFault_1 : decode cX10_doesFault 1 = .ok (.iload_n 2, 1) := by decide +kernel
theorem dX10_doesFault_2 : decode cX10_doesFault 2 = .ok (.invokevirtual 135, 3) := by decide +kernel
theorem dX10_doesFault_5 : decode cX10_doesFault 5 = .ok (.ifCond .eq 41, 3) := by decide +kernel
theorem dX10_doesFault_8 : decode cX10_doesFault 8 = .ok (.aload_n 0, 1) := by decide +kernel
theorem dX10_doesFault_9 : decode cX10_doesFault 9 = .ok (.getfield 13, 3) := by decide +kernel
theorem dX10_doesFault_12 : decode cX10_doesFault 12 = .ok (.iload_n 2, 1) := by decide +kernel
theorem dX10_doesFault_13 : decode cX10_doesFault 13 = .ok (.iaload, 1) := by decide +kernel
theorem dX10_doesFault_14 : decode cX10_doesFault 14 = .ok (.bipush 7, 2) := by decide +kernel
theorem dX10_doesFault_16 : decode cX10_doesFault 16 = .ok (.if_icmp .ne 12, 3) := by decide +kernel
theorem dX10_doesFault_19 : decode cX10_doesFault 19 = .ok (.aload_n 1, 1) := by decide +kernel
theorem dX10_doesFault_20 : decode cX10_doesFault 20 = .ok (.bipush 20, 2) := by decide +kernel
theorem dX10_doesFault_22 : decode cX10_doesFault 22 = .ok (.iaload, 1) := by decide +kernel
theorem dX10_doesFault_23 : decode cX10_doesFault 23 = .ok (.bipush 8, 2) := by decide +kernel
theorem dX10_doesFault_25 : decode cX10_doesFault 25 = .ok (.if_icmp .eq 21, 3) := by decide +kernel
theorem dX10_doesFault_28 : decode cX10_doesFault 28 = .ok (.aload_n 0, 1) := by decide +kernel
theorem dX10_doesFault_29 : decode cX10_doesFault 29 = .ok (.getfield 13, 3) := by decide +kernel
theorem dX10_doesFault_32 : decode cX10_doesFault 32 = .ok (.iload_n 2, 1) := by decide +kernel
theorem dX10_doesFault_33 : decode cX10_doesFault 33 = .ok (.iaload, 1) := by decide +kernel
theorem dX10_doesFault_34 : decode cX10_doesFault 34 = .ok (.bipush 8, 2) := by decide +kernel
theorem dX10_doesFault_36 : decode cX10_doesFault 36 = .ok (.if_icmp .ne 14, 3) := by decide +kernel
theorem dX10_doesFault_39 : decode cX10_doesFault 39 = .ok (.aload_n 1, 1) := by decide +kernel
theorem dX10_doesFault_40 : decode cX10_doesFault 40 = .ok (.bipush 20, 2) := by decide +kernel
theorem dX10_doesFault_42 : decode cX10_doesFault 42 = .ok (.iaload, 1) := by decide +kernel
theorem dX10_doesFault_43 : decode cX10_doesFault 43 = .ok (.ifCond .ne 7, 3) := by decide +kernel
theorem dX10_doesFault_46 : decode cX10_doesFault 46 = .ok (.iconst 1, 1) := by decide +kernel
theorem dX10_doesFault_47 : decode cX10_doesFault 47 = .ok (.goto 4, 3) := by decide +kernel
theorem dX10_doesFault_50 : decode cX10_doesFault 50 = .ok (.iconst 0, 1) := by decide +kernel
theorem dX10_doesFault_51 : decode cX10_doesFault 51 = .ok (.ireturn, 1) := by decide +kernel
theorem dX10_perform_0 : decode cX10_perform 0 = .ok (.aload_n 0, 1) := by decide +kernel
theorem dX10_perform_1 : decode cX10_perform 1 = .ok (.getfield 16, 3) := by decide +kernel
theorem dX10_perform_4 : decode cX10_perform 4 = .ok (.iload_n 2, 1) := by decide +kernel
theorem dX10_perform_5 : decode cX10_perform 5 = .ok (.iaload, 1) := by decide +kernel
theorem dX10_perform_6 : decode cX10_perform 6 = .ok (.istore 4, 2) := by decide +kernel
theorem dX10_perform_8 : decode cX10_perform 8 = .ok (.aload_n 0, 1) := by decide +kernel
theorem dX10_perform_9 : decode cX10_perform 9 = .ok (.getfield 19, 3) := by decide +kernel
theorem dX10_perform_12 : decode cX10_perform 12 = .ok (.iload_n 2, 1) := by decide +kernel
theorem dX10_perform_13 : decode cX10_perform 13 = .ok (.iaload, 1) := by decide +kernel
theorem dX10_perform_14 : decode cX10_perform 14 = .ok (.istore 5, 2) := by decide +kernel
theorem dX10_perform_16 : decode cX10_perform 16 = .ok (.aload_n 0, 1) := by decide +kernel
theorem dX10_perform_17 : decode cX10_perform 17 = .ok (.getfield 13, 3) := by decide +kernel
theorem dX10_perform_20 : decode cX10_perform 20 = .ok (.iload_n 2, 1) := by decide +kernel
theorem dX10_perform_21 : decode cX10_perform 21 = .ok (.iaload, 1) := by decide +kernel
theorem dX10_perform_22 : decode cX10_perform 22 = .ok (.tableswitch 229 0 10 #[58, 68, 83, 98, 112, 126, 131, 149, 172, 190, 201], 58) := by decide +kernel
theorem dX10_perform_80 : decode cX10_perform 80 = .ok (.aload_n 1, 1) := by decide +kernel
theorem dX10_perform_81 : decode cX10_perform 81 = .ok (.iload 4, 2) := by decide +kernel
theorem dX10_perform_83 : decode cX10_perform 83 = .ok (.iload 5, 2) := by decide +kernel
theorem dX10_perform_85 : decode cX10_perform 85 = .ok (.iastore, 1) := by decide +kernel
theorem dX10_perform_86 : decode cX10_perform 86 = .ok (.iload_n 3, 1) := by decide +kernel
theorem dX10_perform_87 : decode cX10_perform 87 = .ok (.iconst 1, 1) := by decide +kernel
theorem dX10_perform_88 : decode cX10_perform 88 = .ok (.iadd, 1) := by decide +kernel
theorem dX10_perform_89 : decode cX10_perform 89 = .ok (.ireturn, 1) := by decide +kernel
theorem dX10_perform_90 : decode cX10_perform 90 = .ok (.aload_n 1, 1) := by decide +kernel
theorem dX10_perform_91 : decode cX10_perform 91 = .ok (.iload 4, 2) := by decide +kernel
theorem dX10_perform_93 : decode cX10_perform 93 = .ok (.dup2, 1) := by decide +kernel
theorem dX10_perform_94 : decode cX10_perform 94 = .ok (.iaload, 1) := by decide +kernel
theorem dX10_perform_95 : decode cX10_perform 95 = .ok (.aload_n 1, 1) := by decide +kernel
theorem dX10_perform_96 : decode cX10_perform 96 = .ok (.iload 5, 2) := by decide +kernel
theorem dX10_perform_98 : decode cX10_perform 98 = .ok (.iaload, 1) := by decide +kernel
theorem dX10_perform_99 : decode cX10_perform 99 = .ok (.iadd, 1) := by decide +kernel
theorem dX10_perform_100 : decode cX10_perform 100 = .ok (.iastore, 1) := by decide +kernel
theorem dX10_perform_101 : decode cX10_perform 101 = .ok (.iload_n 3, 1) := by decide +kernel
theorem dX10_perform_102 : decode cX10_perform 102 = .ok (.iconst 1, 1) := by decide +kernel
theorem dX10_perform_103 : decode cX10_perform 103 = .ok (.iadd, 1) := by decide +kernel
theorem dX10_perform_104 : decode cX10_perform 104 = .ok (.ireturn, 1) := by decide +kernel
theorem dX10_perform_105 : decode cX10_perform 105 = .ok (.aload_n 1, 1) := by decide +kernel
theorem dX10_perform_106 : decode cX10_perform 106 = .ok (.iload 4, 2) := by decide +kernel
theorem dX10_perform_108 : decode cX10_perform 108 = .ok (.dup2, 1) := by decide +kernel
theorem dX10_perform_109 : decode cX10_perform 109 = .ok (.iaload, 1) := by decide +kernel
theorem dX10_perform_110 : decode cX10_perform 110 = .ok (.aload_n 1, 1) := by decide +kernel
theorem dX10_perform_111 : decode cX10_perform 111 = .ok (.iload 5, 2) := by decide +kernel
theorem dX10_perform_113 : decode cX10_perform 113 = .ok (.iaload, 1) := by decide +kernel
theorem dX10_perform_114 : decode cX10_perform 114 = .ok (.isub, 1) := by decide +kernel
theorem dX10_perform_115 : decode cX10_perform 115 = .ok (.iastore, 1) := by decide +kernel
theorem dX10_perform_116 : decode cX10_perform 116 = .ok (.iload_n 3, 1) := by decide +kernel
theorem dX10_perform_117 : decode cX10_perform 117 = .ok (.iconst 1, 1) := by decide +kernel
theorem dX10_perform_118 : decode cX10_perform 118 = .ok (.iadd, 1) := by decide +kernel
theorem dX10_perform_119 : decode cX10_perform 119 = .ok (.ireturn, 1) := by decide +kernel
theorem dX10_perform_120 : decode cX10_perform 120 = .ok (.aload_n 1, 1) := by decide +kernel
theorem dX10_perform_121 : decode cX10_perform 121 = .ok (.iload 4, 2) := by decide +kernel
theorem dX10_perform_123 : decode cX10_perform 123 = .ok (.aload_n 1, 1) := by decide +kernel
theorem dX10_perform_124 : decode cX10_perform 124 = .ok (.iconst 4, 1) := by decide +kernel
theorem dX10_perform_125 : decode cX10_perform 125 = .ok (.iload 5, 2) := by decide +kernel
theorem dX10_perform_127 : decode cX10_perform 127 = .ok (.iadd, 1) := by decide +kernel
theorem dX10_perform_128 : decode cX10_perform 128 = .ok (.iaload, 1) := by decide +kernel
theorem dX10_perform_129 : decode cX10_perform 129 = .ok (.iastore, 1) := by decide +kernel
theorem dX10_perform_130 : decode cX10_perform 130 = .ok (.iload_n 3, 1) := by decide +kernel
theorem dX10_perform_131 : decode cX10_perform 131 = .ok (.iconst 1, 1) := by decide +kernel
theorem dX10_perform_132 : decode cX10_perform 132 = .ok (.iadd, 1) := by decide +kernel
theorem dX10_perform_133 : decode cX10_perform 133 = .ok (.ireturn, 1) := by decide +kernel
theorem dX10_perform_134 : decode cX10_perform 134 = .ok (.aload_n 1, 1) := by decide +kernel
theorem dX10_perform_135 : decode cX10_perform 135 = .ok (.iconst 4, 1) := by decide +kernel
theorem dX10_perform_136 : decode cX10_perform 136 = .ok (.iload 5, 2) := by decide +kernel
theorem dX10_perform_138 : decode cX10_perform 138 = .ok (.iadd, 1) := by decide +kernel
theorem dX10_perform_139 : decode cX10_perform 139 = .ok (.aload_n 1, 1) := by decide +kernel
theorem dX10_perform_140 : decode cX10_perform 140 = .ok (.iload 4, 2) := by decide +kernel
theorem dX10_perform_142 : decode cX10_perform 142 = .ok (.iaload, 1) := by decide +kernel
theorem dX10_perform_143 : decode cX10_perform 143 = .ok (.iastore, 1) := by decide +kernel
theorem dX10_perform_144 : decode cX10_perform 144 = .ok (.iload_n 3, 1) := by decide +kernel
theorem dX10_perform_145 : decode cX10_perform 145 = .ok (.iconst 1, 1) := by decide +kernel
theorem dX10_perform_146 : decode cX10_perform 146 = .ok (.iadd, 1) := by decide +kernel
theorem dX10_perform_147 : decode cX10_perform 147 = .ok (.ireturn, 1) := by decide +kernel
theorem dX10_perform_148 : decode cX10_perform 148 = .ok (.iload_n 3, 1) := by decide +kernel
theorem dX10_perform_149 : decode cX10_perform 149 = .ok (.iload 5, 2) := by decide +kernel
theorem dX10_perform_151 : decode cX10_perform 151 = .ok (.iadd, 1) := by decide +kernel
theorem dX10_perform_152 : decode cX10_perform 152 = .ok (.ireturn, 1) := by decide +kernel
theorem dX10_perform_153 : decode cX10_perform 153 = .ok (.aload_n 1, 1) := by decide +kernel
theorem dX10_perform_154 : decode cX10_perform 154 = .ok (.iload 4, 2) := by decide +kernel
theorem dX10_perform_156 : decode cX10_perform 156 = .ok (.iaload, 1) := by decide +kernel
theorem dX10_perform_157 : decode cX10_perform 157 = .ok (.ifCond .ne 10, 3) := by decide +kernel
theorem dX10_perform_160 : decode cX10_perform 160 = .ok (.iload_n 3, 1) := by decide +kernel
theorem dX10_perform_161 : decode cX10_perform 161 = .ok (.iload 5, 2) := by decide +kernel
theorem dX10_perform_163 : decode cX10_perform 163 = .ok (.iadd, 1) := by decide +kernel
theorem dX10_perform_164 : decode cX10_perform 164 = .ok (.goto 6, 3) := by decide +kernel
theorem dX10_perform_167 : decode cX10_perform 167 = .ok (.iload_n 3, 1) := by decide +kernel
theorem dX10_perform_168 : decode cX10_perform 168 = .ok (.iconst 1, 1) := by decide +kernel
theorem dX10_perform_169 : decode cX10_perform 169 = .ok (.iadd, 1) := by decide +kernel
theorem dX10_perform_170 : decode cX10_perform 170 = .ok (.ireturn, 1) := by decide +kernel
theorem dX10_perform_171 : decode cX10_perform 171 = .ok (.aload_n 1, 1) := by decide +kernel
theorem dX10_perform_172 : decode cX10_perform 172 = .ok (.bipush 12, 2) := by decide +kernel
theorem dX10_perform_174 : decode cX10_perform 174 = .ok (.aload_n 1, 1) := by decide +kernel
theorem dX10_perform_175 : decode cX10_perform 175 = .ok (.bipush 20, 2) := by decide +kernel
theorem dX10_perform_177 : decode cX10_perform 177 = .ok (.iaload, 1) := by decide +kernel
theorem dX10_perform_178 : decode cX10_perform 178 = .ok (.iadd, 1) := by decide +kernel
theorem dX10_perform_179 : decode cX10_perform 179 = .ok (.iload_n 3, 1) := by decide +kernel
theorem dX10_perform_180 : decode cX10_perform 180 = .ok (.iconst 1, 1) := by decide +kernel
theorem dX10_perform_181 : decode cX10_perform 181 = .ok (.iadd, 1) := by decide +kernel
theorem dX10_perform_182 : decode cX10_perform 182 = .ok (.iastore, 1) := by decide +kernel
theorem dX10_perform_183 : decode cX10_perform 183 = .ok (.aload_n 1, 1) := by decide +kernel
theorem dX10_perform_184 : decode cX10_perform 184 = .ok (.bipush 20, 2) := by decide +kernel
theorem dX10_perform_186 : decode cX10_perform 186 = .ok (.dup2, 1) := by decide +kernel
theorem dX10_perform_187 : decode cX10_perform 187 = .ok (.iaload, 1) := by decide +kernel
theorem dX10_perform_188 : decode cX10_perform 188 = .ok (.iconst 1, 1) := by decide +kernel
theorem dX10_perform_189 : decode cX10_perform 189 = .ok (.iadd, 1) := by decide +kernel
theorem dX10_perform_190 : decode cX10_perform 190 = .ok (.iastore, 1) := by decide +kernel
theorem dX10_perform_191 : decode cX10_perform 191 = .ok (.iload 4, 2) := by decide +kernel
theorem dX10_perform_193 : decode cX10_perform 193 = .ok (.ireturn, 1) := by decide +kernel
theorem dX10_perform_194 : decode cX10_perform 194 = .ok (.aload_n 1, 1) := by decide +kernel
theorem dX10_perform_195 : decode cX10_perform 195 = .ok (.bipush 20, 2) := by decide +kernel
theorem dX10_perform_197 : decode cX10_perform 197 = .ok (.dup2, 1) := by decide +kernel
theorem dX10_perform_198 : decode cX10_perform 198 = .ok (.iaload, 1) := by decide +kernel
theorem dX10_perform_199 : decode cX10_perform 199 = .ok (.iconst 1, 1) := by decide +kernel
theorem dX10_perform_200 : decode cX10_perform 200 = .ok (.isub, 1) := by decide +kernel
theorem dX10_perform_201 : decode cX10_perform 201 = .ok (.iastore, 1) := by decide +kernel
theorem dX10_perform_202 : decode cX10_perform 202 = .ok (.aload_n 1, 1) := by decide +kernel
theorem dX10_perform_203 : decode cX10_perform 203 = .ok (.bipush 12, 2) := by decide +kernel
theorem dX10_perform_205 : decode cX10_perform 205 = .ok (.aload_n 1, 1) := by decide +kernel
theorem dX10_perform_206 : decode cX10_perform 206 = .ok (.bipush 20, 2) := by decide +kernel
theorem dX10_perform_208 : decode cX10_perform 208 = .ok (.iaload, 1) := by decide +kernel
theorem dX10_perform_209 : decode cX10_perform 209 = .ok (.iadd, 1) := by decide +kernel
theorem dX10_perform_210 : decode cX10_perform 210 = .ok (.iaload, 1) := by decide +kernel
theorem dX10_perform_211 : decode cX10_perform 211 = .ok (.ireturn, 1) := by decide +kernel
theorem dX10_perform_212 : decode cX10_perform 212 = .ok (.aload_n 1, 1) := by decide +kernel
theorem dX10_perform_213 : decode cX10_perform 213 = .ok (.iload 4, 2) := by decide +kernel
theorem dX10_perform_215 : decode cX10_perform 215 = .ok (.iload_n 3, 1) := by decide +kernel
theorem dX10_perform_216 : decode cX10_perform 216 = .ok (.iconst 1, 1) := by decide +kernel
theorem dX10_perform_217 : decode cX10_perform 217 = .ok (.iadd, 1) := by decide +kernel
theorem dX10_perform_218 : decode cX10_perform 218 = .ok (.iastore, 1) := by decide +kernel
theorem dX10_perform_219 : decode cX10_perform 219 = .ok (.iload_n 3, 1) := by decide +kernel
theorem dX10_perform_220 : decode cX10_perform 220 = .ok (.iconst 1, 1) := by decide +kernel
theorem dX10_perform_221 : decode cX10_perform 221 = .ok (.iadd, 1) := by decide +kernel
theorem dX10_perform_222 : decode cX10_perform 222 = .ok (.ireturn, 1) := by decide +kernel
theorem dX10_perform_223 : decode cX10_perform 223 = .ok (.aload_n 1, 1) := by decide +kernel
theorem dX10_perform_224 : decode cX10_perform 224 = .ok (.bipush 23, 2) := by decide +kernel
theorem dX10_perform_226 : decode cX10_perform 226 = .ok (.dup2, 1) := by decide +kernel
theorem dX10_perform_227 : decode cX10_perform 227 = .ok (.iaload, 1) := by decide +kernel
theorem dX10_perform_228 : decode cX10_perform 228 = .ok (.iconst 1, 1) := by decide +kernel
theorem dX10_perform_229 : decode cX10_perform 229 = .ok (.iadd, 1) := by decide +kernel
theorem dX10_perform_230 : decode cX10_perform 230 = .ok (.iastore, 1) := by decide +kernel
theorem dX10_perform_231 : decode cX10_perform 231 = .ok (.aload_n 1, 1) := by decide +kernel
theorem dX10_perform_232 : decode cX10_perform 232 = .ok (.bipush 24, 2) := by decide +kernel
theorem dX10_perform_234 : decode cX10_perform 234 = .ok (.bipush 31, 2) := by decide +kernel
theorem dX10_perform_236 : decode cX10_perform 236 = .ok (.aload_n 1, 1) := by decide +kernel
theorem dX10_perform_237 : decode cX10_perform 237 = .ok (.bipush 24, 2) := by decide +kernel
theorem dX10_perform_239 : decode cX10_perform 239 = .ok (.iaload, 1) := by decide +kernel
theorem dX10_perform_240 : decode cX10_perform 240 = .ok (.imul, 1) := by decide +kernel
theorem dX10_perform_241 : decode cX10_perform 241 = .ok (.aload_n 1, 1) := by decide +kernel
theorem dX10_perform_242 : decode cX10_perform 242 = .ok (.iload 4, 2) := by decide +kernel
theorem dX10_perform_244 : decode cX10_perform 244 = .ok (.iaload, 1) := by decide +kernel
theorem dX10_perform_245 : decode cX10_perform 245 = .ok (.iadd, 1) := by decide +kernel
theorem dX10_perform_246 : decode cX10_perform 246 = .ok (.iastore, 1) := by decide +kernel
theorem dX10_perform_247 : decode cX10_perform 247 = .ok (.iload_n 3, 1) := by decide +kernel
theorem dX10_perform_248 : decode cX10_perform 248 = .ok (.iconst 1, 1) := by decide +kernel
theorem dX10_perform_249 : decode cX10_perform 249 = .ok (.iadd, 1) := by decide +kernel
theorem dX10_perform_250 : decode cX10_perform 250 = .ok (.ireturn, 1) := by decide +kernel
theorem dX10_perform_251 : decode cX10_perform 251 = .ok (.aload_n 1, 1) := by decide +kernel
theorem dX10_perform_252 : decode cX10_perform 252 = .ok (.bipush 22, 2) := by decide +kernel
theorem dX10_perform_254 : decode cX10_perform 254 = .ok (.iconst 1, 1) := by decide +kernel
theorem dX10_perform_255 : decode cX10_perform 255 = .ok (.iastore, 1) := by decide +kernel
theorem dX10_perform_256 : decode cX10_perform 256 = .ok (.iload_n 3, 1) := by decide +kernel
theorem dX10_perform_257 : decode cX10_perform 257 = .ok (.ireturn, 1) := by decide +kernel
theorem dX10_bareStep_0 : decode cX10_bareStep 0 = .ok (.aload_n 1, 1) := by decide +kernel
theorem dX10_bareStep_1 : decode cX10_bareStep 1 = .ok (.bipush 21, 2) := by decide +kernel
theorem dX10_bareStep_3 : decode cX10_bareStep 3 = .ok (.iaload, 1) := by decide +kernel
theorem dX10_bareStep_4 : decode cX10_bareStep 4 = .ok (.istore_n 2, 1) := by decide +kernel
theorem dX10_bareStep_5 : decode cX10_bareStep 5 = .ok (.iload_n 2, 1) := by decide +kernel
theorem dX10_bareStep_6 : decode cX10_bareStep 6 = .ok (.aload_n 0, 1) := by decide +kernel
theorem dX10_bareStep_7 : decode cX10_bareStep 7 = .ok (.getfield 62, 3) := by decide +kernel
theorem dX10_bareStep_10 : decode cX10_bareStep 10 = .ok (.if_icmp .ne 20, 3) := by decide +kernel
theorem dX10_bareStep_13 : decode cX10_bareStep 13 = .ok (.aload_n 0, 1) := by decide +kernel
theorem dX10_bareStep_14 : decode cX10_bareStep 14 = .ok (.iload_n 2, 1) := by decide +kernel
theorem dX10_bareStep_15 : decode cX10_bareStep 15 = .ok (.invokevirtual 135, 3) := by decide +kernel
theorem dX10_bareStep_18 : decode cX10_bareStep 18 = .ok (.ifCond .eq 12, 3) := by decide +kernel
theorem dX10_bareStep_21 : decode cX10_bareStep 21 = .ok (.aload_n 1, 1) := by decide +kernel
theorem dX10_bareStep_22 : decode cX10_bareStep 22 = .ok (.bipush 21, 2) := by decide +kernel
theorem dX10_bareStep_24 : decode cX10_bareStep 24 = .ok (.iload_n 2, 1) := by decide +kernel
theorem dX10_bareStep_25 : decode cX10_bareStep 25 = .ok (.iconst 1, 1) := by decide +kernel
theorem dX10_bareStep_26 : decode cX10_bareStep 26 = .ok (.iadd, 1) := by decide +kernel
theorem dX10_bareStep_27 : decode cX10_bareStep 27 = .ok (.iastore, 1) := by decide +kernel
theorem dX10_bareStep_28 : decode cX10_bareStep 28 = .ok (.iconst 1, 1) := by decide +kernel
theorem dX10_bareStep_29 : decode cX10_bareStep 29 = .ok (.ireturn, 1) := by decide +kernel
theorem dX10_bareStep_30 : decode cX10_bareStep 30 = .ok (.aload_n 0, 1) := by decide +kernel
theorem dX10_bareStep_31 : decode cX10_bareStep 31 = .ok (.aload_n 1, 1) := by decide +kernel
theorem dX10_bareStep_32 : decode cX10_bareStep 32 = .ok (.iload_n 2, 1) := by decide +kernel
theorem dX10_bareStep_33 : decode cX10_bareStep 33 = .ok (.invokevirtual 138, 3) := by decide +kernel
theorem dX10_bareStep_36 : decode cX10_bareStep 36 = .ok (.ifCond .eq 5, 3) := by decide +kernel
theorem dX10_bareStep_39 : decode cX10_bareStep 39 = .ok (.iconst 0, 1) := by decide +kernel
theorem dX10_bareStep_40 : decode cX10_bareStep 40 = .ok (.ireturn, 1) := by decide +kernel
theorem dX10_bareStep_41 : decode cX10_bareStep 41 = .ok (.aload_n 1, 1) := by decide +kernel
theorem dX10_bareStep_42 : decode cX10_bareStep 42 = .ok (.bipush 21, 2) := by decide +kernel
theorem dX10_bareStep_44 : decode cX10_bareStep 44 = .ok (.aload_n 0, 1) := by decide +kernel
theorem dX10_bareStep_45 : decode cX10_bareStep 45 = .ok (.aload_n 1, 1) := by decide +kernel
theorem dX10_bareStep_46 : decode cX10_bareStep 46 = .ok (.iload_n 2, 1) := by decide +kernel
theorem dX10_bareStep_47 : decode cX10_bareStep 47 = .ok (.iload_n 2, 1) := by decide +kernel
theorem dX10_bareStep_48 : decode cX10_bareStep 48 = .ok (.invokevirtual 142, 3) := by decide +kernel
theorem dX10_bareStep_51 : decode cX10_bareStep 51 = .ok (.iastore, 1) := by decide +kernel
theorem dX10_bareStep_52 : decode cX10_bareStep 52 = .ok (.iconst 1, 1) := by decide +kernel
theorem dX10_bareStep_53 : decode cX10_bareStep 53 = .ok (.ireturn, 1) := by decide +kernel
theorem dX10_areAlike_0 : decode cX10_areAlike 0 = .ok (.aload_n 0, 1) := by decide +kernel
theorem dX10_areAlike_1 : decode cX10_areAlike 1 = .ok (.getfield 13, 3) := by decide +kernel
theorem dX10_areAlike_4 : decode cX10_areAlike 4 = .ok (.iload_n 1, 1) := by decide +kernel
theorem dX10_areAlike_5 : decode cX10_areAlike 5 = .ok (.iaload, 1) := by decide +kernel
theorem dX10_areAlike_6 : decode cX10_areAlike 6 = .ok (.aload_n 0, 1) := by decide +kernel
theorem dX10_areAlike_7 : decode cX10_areAlike 7 = .ok (.getfield 13, 3) := by decide +kernel
theorem dX10_areAlike_10 : decode cX10_areAlike 10 = .ok (.iload_n 2, 1) := by decide +kernel
theorem dX10_areAlike_11 : decode cX10_areAlike 11 = .ok (.iaload, 1) := by decide +kernel
theorem dX10_areAlike_12 : decode cX10_areAlike 12 = .ok (.if_icmp .ne 37, 3) := by decide +kernel
theorem dX10_areAlike_15 : decode cX10_areAlike 15 = .ok (.aload_n 0, 1) := by decide +kernel
theorem dX10_areAlike_16 : decode cX10_areAlike 16 = .ok (.getfield 16, 3) := by decide +kernel
theorem dX10_areAlike_19 : decode cX10_areAlike 19 = .ok (.iload_n 1, 1) := by decide +kernel
theorem dX10_areAlike_20 : decode cX10_areAlike 20 = .ok (.iaload, 1) := by decide +kernel
theorem dX10_areAlike_21 : decode cX10_areAlike 21 = .ok (.aload_n 0, 1) := by decide +kernel
theorem dX10_areAlike_22 : decode cX10_areAlike 22 = .ok (.getfield 16, 3) := by decide +kernel
theorem dX10_areAlike_25 : decode cX10_areAlike 25 = .ok (.iload_n 2, 1) := by decide +kernel
theorem dX10_areAlike_26 : decode cX10_areAlike 26 = .ok (.iaload, 1) := by decide +kernel
theorem dX10_areAlike_27 : decode cX10_areAlike 27 = .ok (.if_icmp .ne 22, 3) := by decide +kernel
theorem dX10_areAlike_30 : decode cX10_areAlike 30 = .ok (.aload_n 0, 1) := by decide +kernel
theorem dX10_areAlike_31 : decode cX10_areAlike 31 = .ok (.getfield 19, 3) := by decide +kernel
theorem dX10_areAlike_34 : decode cX10_areAlike 34 = .ok (.iload_n 1, 1) := by decide +kernel
theorem dX10_areAlike_35 : decode cX10_areAlike 35 = .ok (.iaload, 1) := by decide +kernel
theorem dX10_areAlike_36 : decode cX10_areAlike 36 = .ok (.aload_n 0, 1) := by decide +kernel
theorem dX10_areAlike_37 : decode cX10_areAlike 37 = .ok (.getfield 19, 3) := by decide +kernel
theorem dX10_areAlike_40 : decode cX10_areAlike 40 = .ok (.iload_n 2, 1) := by decide +kernel
theorem dX10_areAlike_41 : decode cX10_areAlike 41 = .ok (.iaload, 1) := by decide +kernel
theorem dX10_areAlike_42 : decode cX10_areAlike 42 = .ok (.if_icmp .ne 7, 3) := by decide +kernel
theorem dX10_areAlike_45 : decode cX10_areAlike 45 = .ok (.iconst 1, 1) := by decide +kernel
theorem dX10_areAlike_46 : decode cX10_areAlike 46 = .ok (.goto 4, 3) := by decide +kernel
theorem dX10_areAlike_49 : decode cX10_areAlike 49 = .ok (.iconst 0, 1) := by decide +kernel
theorem dX10_areAlike_50 : decode cX10_areAlike 50 = .ok (.ireturn, 1) := by decide +kernel
theorem dX10_leastAlike_0 : decode cX10_leastAlike 0 = .ok (.iload_n 1, 1) := by decide +kernel
theorem dX10_leastAlike_1 : decode cX10_leastAlike 1 = .ok (.istore_n 2, 1) := by decide +kernel
theorem dX10_leastAlike_2 : decode cX10_leastAlike 2 = .ok (.iload_n 1, 1) := by decide +kernel
theorem dX10_leastAlike_3 : decode cX10_leastAlike 3 = .ok (.iconst 1, 1) := by decide +kernel
theorem dX10_leastAlike_4 : decode cX10_leastAlike 4 = .ok (.isub, 1) := by decide +kernel
theorem dX10_leastAlike_5 : decode cX10_leastAlike 5 = .ok (.istore_n 3, 1) := by decide +kernel
theorem dX10_leastAlike_6 : decode cX10_leastAlike 6 = .ok (.iload_n 3, 1) := by decide +kernel
theorem dX10_leastAlike_7 : decode cX10_leastAlike 7 = .ok (.ifCond .lt 24, 3) := by decide +kernel
theorem dX10_leastAlike_10 : decode cX10_leastAlike 10 = .ok (.aload_n 0, 1) := by decide +kernel
theorem dX10_leastAlike_11 : decode cX10_leastAlike 11 = .ok (.iload_n 1, 1) := by decide +kernel
theorem dX10_leastAlike_12 : decode cX10_leastAlike 12 = .ok (.iload_n 3, 1) := by decide +kernel
theorem dX10_leastAlike_13 : decode cX10_leastAlike 13 = .ok (.invokevirtual 146, 3) := by decide +kernel
theorem dX10_leastAlike_16 : decode cX10_leastAlike 16 = .ok (.ifCond .eq 7, 3) := by decide +kernel
theorem dX10_leastAlike_19 : decode cX10_leastAlike 19 = .ok (.iload_n 3, 1) := by decide +kernel
theorem dX10_leastAlike_20 : decode cX10_leastAlike 20 = .ok (.goto 4, 3) := by decide +kernel
theorem dX10_leastAlike_23 : decode cX10_leastAlike 23 = .ok (.iload_n 2, 1) := by decide +kernel
theorem dX10_leastAlike_24 : decode cX10_leastAlike 24 = .ok (.istore_n 2, 1) := by decide +kernel
theorem dX10_leastAlike_25 : decode cX10_leastAlike 25 = .ok (.iinc 3 (-1), 3) := by decide +kernel
theorem dX10_leastAlike_28 : decode cX10_leastAlike 28 = .ok (.goto (-22), 3) := by decide +kernel
theorem dX10_leastAlike_31 : decode cX10_leastAlike 31 = .ok (.iload_n 2, 1) := by decide +kernel
theorem dX10_leastAlike_32 : decode cX10_leastAlike 32 = .ok (.ireturn, 1) := by decide +kernel
theorem dX10_keepCopy_0 : decode cX10_keepCopy 0 = .ok (.aload_n 0, 1) := by decide +kernel
theorem dX10_keepCopy_1 : decode cX10_keepCopy 1 = .ok (.iload_n 2, 1) := by decide +kernel
theorem dX10_keepCopy_2 : decode cX10_keepCopy 2 = .ok (.invokevirtual 149, 3) := by decide +kernel
theorem dX10_keepCopy_5 : decode cX10_keepCopy 5 = .ok (.istore_n 3, 1) := by decide +kernel
theorem dX10_keepCopy_6 : decode cX10_keepCopy 6 = .ok (.iconst 0, 1) := by decide +kernel
theorem dX10_keepCopy_7 : decode cX10_keepCopy 7 = .ok (.istore 4, 2) := by decide +kernel
theorem dX10_keepCopy_9 : decode cX10_keepCopy 9 = .ok (.iload 4, 2) := by decide +kernel
theorem dX10_keepCopy_11 : decode cX10_keepCopy 11 = .ok (.aload_n 1, 1) := by decide +kernel
theorem dX10_keepCopy_12 : decode cX10_keepCopy 12 = .ok (.bipush 122, 2) := by decide +kernel
theorem dX10_keepCopy_14 : decode cX10_keepCopy 14 = .ok (.iaload, 1) := by decide +kernel
theorem dX10_keepCopy_15 : decode cX10_keepCopy 15 = .ok (.if_icmp .ge 21, 3) := by decide +kernel
theorem dX10_keepCopy_18 : decode cX10_keepCopy 18 = .ok (.aload_n 1, 1) := by decide +kernel
theorem dX10_keepCopy_19 : decode cX10_keepCopy 19 = .ok (.bipush 123, 2) := by decide +kernel
theorem dX10_keepCopy_21 : decode cX10_keepCopy 21 = .ok (.iload 4, 2) := by decide +kernel
theorem dX10_keepCopy_23 : decode cX10_keepCopy 23 = .ok (.iadd, 1) := by decide +kernel
theorem dX10_keepCopy_24 : decode cX10_keepCopy 24 = .ok (.iaload, 1) := by decide +kernel
theorem dX10_keepCopy_25 : decode cX10_keepCopy 25 = .ok (.iload_n 3, 1) := by decide +kernel
theorem dX10_keepCopy_26 : decode cX10_keepCopy 26 = .ok (.if_icmp .ne 4, 3) := by decide +kernel
theorem dX10_keepCopy_29 : decode cX10_keepCopy 29 = .ok (.return_, 1) := by decide +kernel
theorem dX10_keepCopy_30 : decode cX10_keepCopy 30 = .ok (.iinc 4 1, 3) := by decide +kernel
theorem dX10_keepCopy_33 : decode cX10_keepCopy 33 = .ok (.goto (-24), 3) := by decide +kernel
theorem dX10_keepCopy_36 : decode cX10_keepCopy 36 = .ok (.aload_n 1, 1) := by decide +kernel
theorem dX10_keepCopy_37 : decode cX10_keepCopy 37 = .ok (.bipush 122, 2) := by decide +kernel
theorem dX10_keepCopy_39 : decode cX10_keepCopy 39 = .ok (.iaload, 1) := by decide +kernel
theorem dX10_keepCopy_40 : decode cX10_keepCopy 40 = .ok (.iconst 3, 1) := by decide +kernel
theorem dX10_keepCopy_41 : decode cX10_keepCopy 41 = .ok (.if_icmp .ne 27, 3) := by decide +kernel
theorem dX10_keepCopy_44 : decode cX10_keepCopy 44 = .ok (.aload_n 1, 1) := by decide +kernel
theorem dX10_keepCopy_45 : decode cX10_keepCopy 45 = .ok (.bipush 123, 2) := by decide +kernel
theorem dX10_keepCopy_47 : decode cX10_keepCopy 47 = .ok (.aload_n 1, 1) := by decide +kernel
theorem dX10_keepCopy_48 : decode cX10_keepCopy 48 = .ok (.bipush 124, 2) := by decide +kernel
theorem dX10_keepCopy_50 : decode cX10_keepCopy 50 = .ok (.iaload, 1) := by decide +kernel
theorem dX10_keepCopy_51 : decode cX10_keepCopy 51 = .ok (.iastore, 1) := by decide +kernel
theorem dX10_keepCopy_52 : decode cX10_keepCopy 52 = .ok (.aload_n 1, 1) := by decide +kernel
theorem dX10_keepCopy_53 : decode cX10_keepCopy 53 = .ok (.bipush 124, 2) := by decide +kernel
theorem dX10_keepCopy_55 : decode cX10_keepCopy 55 = .ok (.aload_n 1, 1) := by decide +kernel
theorem dX10_keepCopy_56 : decode cX10_keepCopy 56 = .ok (.bipush 125, 2) := by decide +kernel
theorem dX10_keepCopy_58 : decode cX10_keepCopy 58 = .ok (.iaload, 1) := by decide +kernel
theorem dX10_keepCopy_59 : decode cX10_keepCopy 59 = .ok (.iastore, 1) := by decide +kernel
theorem dX10_keepCopy_60 : decode cX10_keepCopy 60 = .ok (.aload_n 1, 1) := by decide +kernel
theorem dX10_keepCopy_61 : decode cX10_keepCopy 61 = .ok (.bipush 122, 2) := by decide +kernel
theorem dX10_keepCopy_63 : decode cX10_keepCopy 63 = .ok (.dup2, 1) := by decide +kernel
theorem dX10_keepCopy_64 : decode cX10_keepCopy 64 = .ok (.iaload, 1) := by decide +kernel
theorem dX10_keepCopy_65 : decode cX10_keepCopy 65 = .ok (.iconst 1, 1) := by decide +kernel
theorem dX10_keepCopy_66 : decode cX10_keepCopy 66 = .ok (.isub, 1) := by decide +kernel
theorem dX10_keepCopy_67 : decode cX10_keepCopy 67 = .ok (.iastore, 1) := by decide +kernel
theorem dX10_keepCopy_68 : decode cX10_keepCopy 68 = .ok (.aload_n 1, 1) := by decide +kernel
theorem dX10_keepCopy_69 : decode cX10_keepCopy 69 = .ok (.bipush 123, 2) := by decide +kernel
theorem dX10_keepCopy_71 : decode cX10_keepCopy 71 = .ok (.aload_n 1, 1) := by decide +kernel
theorem dX10_keepCopy_72 : decode cX10_keepCopy 72 = .ok (.bipush 122, 2) := by decide +kernel
theorem dX10_keepCopy_74 : decode cX10_keepCopy 74 = .ok (.iaload, 1) := by decide +kernel
theorem dX10_keepCopy_75 : decode cX10_keepCopy 75 = .ok (.iadd, 1) := by decide +kernel
theorem dX10_keepCopy_76 : decode cX10_keepCopy 76 = .ok (.iload_n 3, 1) := by decide +kernel
theorem dX10_keepCopy_77 : decode cX10_keepCopy 77 = .ok (.iastore, 1) := by decide +kernel
theorem dX10_keepCopy_78 : decode cX10_keepCopy 78 = .ok (.aload_n 1, 1) := by decide +kernel
theorem dX10_keepCopy_79 : decode cX10_keepCopy 79 = .ok (.bipush 122, 2) := by decide +kernel
theorem dX10_keepCopy_81 : decode cX10_keepCopy 81 = .ok (.dup2, 1) := by decide +kernel
theorem dX10_keepCopy_82 : decode cX10_keepCopy 82 = .ok (.iaload, 1) := by decide +kernel
theorem dX10_keepCopy_83 : decode cX10_keepCopy 83 = .ok (.iconst 1, 1) := by decide +kernel
theorem dX10_keepCopy_84 : decode cX10_keepCopy 84 = .ok (.iadd, 1) := by decide +kernel
theorem dX10_keepCopy_85 : decode cX10_keepCopy 85 = .ok (.iastore, 1) := by decide +kernel
theorem dX10_keepCopy_86 : decode cX10_keepCopy 86 = .ok (.return_, 1) := by decide +kernel
theorem dX10_step_0 : decode cX10_step 0 = .ok (.aload_n 1, 1) := by decide +kernel
theorem dX10_step_1 : decode cX10_step 1 = .ok (.bipush 21, 2) := by decide +kernel
theorem dX10_step_3 : decode cX10_step 3 = .ok (.iaload, 1) := by decide +kernel
theorem dX10_step_4 : decode cX10_step 4 = .ok (.istore_n 2, 1) := by decide +kernel
theorem dX10_step_5 : decode cX10_step 5 = .ok (.aload_n 0, 1) := by decide +kernel
theorem dX10_step_6 : decode cX10_step 6 = .ok (.aload_n 1, 1) := by decide +kernel
theorem dX10_step_7 : decode cX10_step 7 = .ok (.invokevirtual 152, 3) := by decide +kernel
theorem dX10_step_10 : decode cX10_step 10 = .ok (.ifCond .ne 5, 3) := by decide +kernel
theorem dX10_step_13 : decode cX10_step 13 = .ok (.iconst 0, 1) := by decide +kernel
theorem dX10_step_14 : decode cX10_step 14 = .ok (.ireturn, 1) := by decide +kernel
theorem dX10_step_15 : decode cX10_step 15 = .ok (.aload_n 1, 1) := by decide +kernel
theorem dX10_step_16 : decode cX10_step 16 = .ok (.bipush 26, 2) := by decide +kernel
theorem dX10_step_18 : decode cX10_step 18 = .ok (.iload_n 2, 1) := by decide +kernel
theorem dX10_step_19 : decode cX10_step 19 = .ok (.iadd, 1) := by decide +kernel
theorem dX10_step_20 : decode cX10_step 20 = .ok (.iaload, 1) := by decide +kernel
theorem dX10_step_21 : decode cX10_step 21 = .ok (.ifCond .le 17, 3) := by decide +kernel
theorem dX10_step_24 : decode cX10_step 24 = .ok (.aload_n 1, 1) := by decide +kernel
theorem dX10_step_25 : decode cX10_step 25 = .ok (.bipush 126, 2) := by decide +kernel
theorem dX10_step_27 : decode cX10_step 27 = .ok (.dup2, 1) := by decide +kernel
theorem dX10_step_28 : decode cX10_step 28 = .ok (.iaload, 1) := by decide +kernel
theorem dX10_step_29 : decode cX10_step 29 = .ok (.iconst 3, 1) := by decide +kernel
theorem dX10_step_30 : decode cX10_step 30 = .ok (.iadd, 1) := by decide +kernel
theorem dX10_step_31 : decode cX10_step 31 = .ok (.iastore, 1) := by decide +kernel
theorem dX10_step_32 : decode cX10_step 32 = .ok (.aload_n 0, 1) := by decide +kernel
theorem dX10_step_33 : decode cX10_step 33 = .ok (.aload_n 1, 1) := by decide +kernel
theorem dX10_step_34 : decode cX10_step 34 = .ok (.iload_n 2, 1) := by decide +kernel
theorem dX10_step_35 : decode cX10_step 35 = .ok (.invokevirtual 156, 3) := by decide +kernel
theorem dX10_step_38 : decode cX10_step 38 = .ok (.aload_n 1, 1) := by decide +kernel
theorem dX10_step_39 : decode cX10_step 39 = .ok (.bipush 126, 2) := by decide +kernel
theorem dX10_step_41 : decode cX10_step 41 = .ok (.dup2, 1) := by decide +kernel
theorem dX10_step_42 : decode cX10_step 42 = .ok (.iaload, 1) := by decide +kernel
theorem dX10_step_43 : decode cX10_step 43 = .ok (.aload_n 1, 1) := by decide +kernel
theorem dX10_step_44 : decode cX10_step 44 = .ok (.bipush 25, 2) := by decide +kernel
theorem dX10_step_46 : decode cX10_step 46 = .ok (.iaload, 1) := by decide +kernel
theorem dX10_step_47 : decode cX10_step 47 = .ok (.invokestatic 160, 3) := by decide +kernel
theorem dX10_step_50 : decode cX10_step 50 = .ok (.iconst 2, 1) := by decide +kernel
theorem dX10_step_51 : decode cX10_step 51 = .ok (.if_icmp .le 8, 3) := by decide +kernel
theorem dX10_step_54 : decode cX10_step 54 = .ok (.bipush 10, 2) := by decide +kernel
theorem dX10_step_56 : decode cX10_step 56 = .ok (.goto 4, 3) := by decide +kernel
theorem dX10_step_59 : decode cX10_step 59 = .ok (.iconst 1, 1) := by decide +kernel
theorem dX10_step_60 : decode cX10_step 60 = .ok (.iadd, 1) := by decide +kernel
theorem dX10_step_61 : decode cX10_step 61 = .ok (.iastore, 1) := by decide +kernel
theorem dX10_step_62 : decode cX10_step 62 = .ok (.aload_n 1, 1) := by decide +kernel
theorem dX10_step_63 : decode cX10_step 63 = .ok (.bipush 127, 2) := by decide +kernel
theorem dX10_step_65 : decode cX10_step 65 = .ok (.dup2, 1) := by decide +kernel
theorem dX10_step_66 : decode cX10_step 66 = .ok (.iaload, 1) := by decide +kernel
theorem dX10_step_67 : decode cX10_step 67 = .ok (.iconst 1, 1) := by decide +kernel
theorem dX10_step_68 : decode cX10_step 68 = .ok (.iadd, 1) := by decide +kernel
theorem dX10_step_69 : decode cX10_step 69 = .ok (.iastore, 1) := by decide +kernel
theorem dX10_step_70 : decode cX10_step 70 = .ok (.iconst 1, 1) := by decide +kernel
theorem dX10_step_71 : decode cX10_step 71 = .ok (.ireturn, 1) := by decide +kernel
theorem dX10_applies_0 : decode cX10_applies 0 = .ok (.aload_n 0, 1) := by decide +kernel
theorem dX10_applies_1 : decode cX10_applies 1 = .ok (.iload_n 2, 1) := by decide +kernel
theorem dX10_applies_2 : decode cX10_applies 2 = .ok (.invokevirtual 135, 3) := by decide +kernel
theorem dX10_applies_5 : decode cX10_applies 5 = .ok (.ifCond .eq 12, 3) := by decide +kernel
theorem dX10_applies_8 : decode cX10_applies 8 = .ok (.aload_n 1, 1) := by decide +kernel
theorem dX10_applies_9 : decode cX10_applies 9 = .ok (.bipush 26, 2) := by decide +kernel
theorem dX10_applies_11 : decode cX10_applies 11 = .ok (.iload_n 2, 1) := by decide +kernel
theorem dX10_applies_12 : decode cX10_applies 12 = .ok (.iadd, 1) := by decide +kernel
theorem dX10_applies_13 : decode cX10_applies 13 = .ok (.iaload, 1) := by decide +kernel
theorem dX10_applies_14 : decode cX10_applies 14 = .ok (.ifCond .ne 5, 3) := by decide +kernel
theorem dX10_applies_17 : decode cX10_applies 17 = .ok (.iconst 0, 1) := by decide +kernel
theorem dX10_applies_18 : decode cX10_applies 18 = .ok (.ireturn, 1) := by decide +kernel
theorem dX10_applies_19 : decode cX10_applies 19 = .ok (.aload_n 1, 1) := by decide +kernel
theorem dX10_applies_20 : decode cX10_applies 20 = .ok (.bipush 42, 2) := by decide +kernel
theorem dX10_applies_22 : decode cX10_applies 22 = .ok (.iload_n 2, 1) := by decide +kernel
theorem dX10_applies_23 : decode cX10_applies 23 = .ok (.iadd, 1) := by decide +kernel
theorem dX10_applies_24 : decode cX10_applies 24 = .ok (.iaload, 1) := by decide +kernel
theorem dX10_applies_25 : decode cX10_applies 25 = .ok (.istore_n 3, 1) := by decide +kernel
theorem dX10_applies_26 : decode cX10_applies 26 = .ok (.iload_n 3, 1) := by decide +kernel
theorem dX10_applies_27 : decode cX10_applies 27 = .ok (.bipush (-9), 2) := by decide +kernel
theorem dX10_applies_29 : decode cX10_applies 29 = .ok (.if_icmp .ne 5, 3) := by decide +kernel
theorem dX10_applies_32 : decode cX10_applies 32 = .ok (.iconst 1, 1) := by decide +kernel
theorem dX10_applies_33 : decode cX10_applies 33 = .ok (.ireturn, 1) := by decide +kernel
theorem dX10_applies_34 : decode cX10_applies 34 = .ok (.aload_n 1, 1) := by decide +kernel
theorem dX10_applies_35 : decode cX10_applies 35 = .ok (.iload_n 3, 1) := by decide +kernel
theorem dX10_applies_36 : decode cX10_applies 36 = .ok (.iaload, 1) := by decide +kernel
theorem dX10_applies_37 : decode cX10_applies 37 = .ok (.istore 4, 2) := by decide +kernel
theorem dX10_applies_39 : decode cX10_applies 39 = .ok (.aload_n 1, 1) := by decide +kernel
theorem dX10_applies_40 : decode cX10_applies 40 = .ok (.bipush 74, 2) := by decide +kernel
theorem dX10_applies_42 : decode cX10_applies 42 = .ok (.iload_n 2, 1) := by decide +kernel
theorem dX10_applies_43 : decode cX10_applies 43 = .ok (.iadd, 1) := by decide +kernel
theorem dX10_applies_44 : decode cX10_applies 44 = .ok (.iaload, 1) := by decide +kernel
theorem dX10_applies_45 : decode cX10_applies 45 = .ok (.istore 5, 2) := by decide +kernel
theorem dX10_applies_47 : decode cX10_applies 47 = .ok (.aload_n 1, 1) := by decide +kernel
theorem dX10_applies_48 : decode cX10_applies 48 = .ok (.bipush 58, 2) := by decide +kernel
theorem dX10_applies_50 : decode cX10_applies 50 = .ok (.iload_n 2, 1) := by decide +kernel
theorem dX10_applies_51 : decode cX10_applies 51 = .ok (.iadd, 1) := by decide +kernel
theorem dX10_applies_52 : decode cX10_applies 52 = .ok (.iaload, 1) := by decide +kernel
theorem dX10_applies_53 : decode cX10_applies 53 = .ok (.istore 6, 2) := by decide +kernel
theorem dX10_applies_55 : decode cX10_applies 55 = .ok (.iload 6, 2) := by decide +kernel
theorem dX10_applies_57 : decode cX10_applies 57 = .ok (.ifCond .ne 18, 3) := by decide +kernel
theorem dX10_applies_60 : decode cX10_applies 60 = .ok (.iload 4, 2) := by decide +kernel
theorem dX10_applies_62 : decode cX10_applies 62 = .ok (.iload 5, 2) := by decide +kernel
theorem dX10_applies_64 : decode cX10_applies 64 = .ok (.if_icmp .ge 7, 3) := by decide +kernel
theorem dX10_applies_67 : decode cX10_applies 67 = .ok (.iconst 1, 1) := by decide +kernel
theorem dX10_applies_68 : decode cX10_applies 68 = .ok (.goto 40, 3) := by decide +kernel
theorem dX10_applies_71 : decode cX10_applies 71 = .ok (.iconst 0, 1) := by decide +kernel
theorem dX10_applies_72 : decode cX10_applies 72 = .ok (.goto 36, 3) := by decide +kernel
theorem dX10_applies_75 : decode cX10_applies 75 = .ok (.iload 6, 2) := by decide +kernel
theorem dX10_applies_77 : decode cX10_applies 77 = .ok (.iconst 1, 1) := by decide +kernel
theorem dX10_applies_78 : decode cX10_applies 78 = .ok (.if_icmp .ne 18, 3) := by decide +kernel
theorem dX10_applies_81 : decode cX10_applies 81 = .ok (.iload 4, 2) := by decide +kernel
theorem dX10_applies_83 : decode cX10_applies 83 = .ok (.iload 5, 2) := by decide +kernel
theorem dX10_applies_85 : decode cX10_applies 85 = .ok (.if_icmp .ne 7, 3) := by decide +kernel
theorem dX10_applies_88 : decode cX10_applies 88 = .ok (.iconst 1, 1) := by decide +kernel
theorem dX10_applies_89 : decode cX10_applies 89 = .ok (.goto 19, 3) := by decide +kernel
theorem dX10_applies_92 : decode cX10_applies 92 = .ok (.iconst 0, 1) := by decide +kernel
theorem dX10_applies_93 : decode cX10_applies 93 = .ok (.goto 15, 3) := by decide +kernel
theorem dX10_applies_96 : decode cX10_applies 96 = .ok (.iload 4, 2) := by decide +kernel
theorem dX10_applies_98 : decode cX10_applies 98 = .ok (.iload 5, 2) := by decide +kernel
theorem dX10_applies_100 : decode cX10_applies 100 = .ok (.if_icmp .le 7, 3) := by decide +kernel
theorem dX10_applies_103 : decode cX10_applies 103 = .ok (.iconst 1, 1) := by decide +kernel
theorem dX10_applies_104 : decode cX10_applies 104 = .ok (.goto 4, 3) := by decide +kernel
theorem dX10_applies_107 : decode cX10_applies 107 = .ok (.iconst 0, 1) := by decide +kernel
theorem dX10_applies_108 : decode cX10_applies 108 = .ok (.ireturn, 1) := by decide +kernel
theorem dX10_isChanged_0 : decode cX10_isChanged 0 = .ok (.iconst 0, 1) := by decide +kernel
theorem dX10_isChanged_1 : decode cX10_isChanged 1 = .ok (.istore_n 2, 1) := by decide +kernel
theorem dX10_isChanged_2 : decode cX10_isChanged 2 = .ok (.iconst 0, 1) := by decide +kernel
theorem dX10_isChanged_3 : decode cX10_isChanged 3 = .ok (.istore_n 3, 1) := by decide +kernel
theorem dX10_isChanged_4 : decode cX10_isChanged 4 = .ok (.iload_n 3, 1) := by decide +kernel
theorem dX10_isChanged_5 : decode cX10_isChanged 5 = .ok (.bipush 8, 2) := by decide +kernel
theorem dX10_isChanged_7 : decode cX10_isChanged 7 = .ok (.if_icmp .ge 44, 3) := by decide +kernel
theorem dX10_isChanged_10 : decode cX10_isChanged 10 = .ok (.iload_n 2, 1) := by decide +kernel
theorem dX10_isChanged_11 : decode cX10_isChanged 11 = .ok (.ifCond .ne 28, 3) := by decide +kernel
theorem dX10_isChanged_14 : decode cX10_isChanged 14 = .ok (.aload_n 1, 1) := by decide +kernel
theorem dX10_isChanged_15 : decode cX10_isChanged 15 = .ok (.bipush 25, 2) := by decide +kernel
theorem dX10_isChanged_17 : decode cX10_isChanged 17 = .ok (.iaload, 1) := by decide +kernel
theorem dX10_isChanged_18 : decode cX10_isChanged 18 = .ok (.iload_n 3, 1) := by decide +kernel
theorem dX10_isChanged_19 : decode cX10_isChanged 19 = .ok (.invokestatic 163, 3) := by decide +kernel
theorem dX10_isChanged_22 : decode cX10_isChanged 22 = .ok (.ifCond .eq 21, 3) := by decide +kernel
theorem dX10_isChanged_25 : decode cX10_isChanged 25 = .ok (.aload_n 1, 1) := by decide +kernel
theorem dX10_isChanged_26 : decode cX10_isChanged 26 = .ok (.iconst 4, 1) := by decide +kernel
theorem dX10_isChanged_27 : decode cX10_isChanged 27 = .ok (.iload_n 3, 1) := by decide +kernel
theorem dX10_isChanged_28 : decode cX10_isChanged 28 = .ok (.iadd, 1) := by decide +kernel
theorem dX10_isChanged_29 : decode cX10_isChanged 29 = .ok (.iaload, 1) := by decide +kernel
theorem dX10_isChanged_30 : decode cX10_isChanged 30 = .ok (.aload_n 0, 1) := by decide +kernel
theorem dX10_isChanged_31 : decode cX10_isChanged 31 = .ok (.getfield 44, 3) := by decide +kernel
theorem dX10_isChanged_34 : decode cX10_isChanged 34 = .ok (.iload_n 3, 1) := by decide +kernel
theorem dX10_isChanged_35 : decode cX10_isChanged 35 = .ok (.iaload, 1) := by decide +kernel
theorem dX10_isChanged_36 : decode cX10_isChanged 36 = .ok (.if_icmp .eq 7, 3) := by decide +kernel
theorem dX10_isChanged_39 : decode cX10_isChanged 39 = .ok (.iconst 1, 1) := by decide +kernel
theorem dX10_isChanged_40 : decode cX10_isChanged 40 = .ok (.goto 4, 3) := by decide +kernel
theorem dX10_isChanged_43 : decode cX10_isChanged 43 = .ok (.iconst 0, 1) := by decide +kernel
theorem dX10_isChanged_44 : decode cX10_isChanged 44 = .ok (.istore_n 2, 1) := by decide +kernel
theorem dX10_isChanged_45 : decode cX10_isChanged 45 = .ok (.iinc 3 1, 3) := by decide +kernel
theorem dX10_isChanged_48 : decode cX10_isChanged 48 = .ok (.goto (-44), 3) := by decide +kernel
theorem dX10_isChanged_51 : decode cX10_isChanged 51 = .ok (.iload_n 2, 1) := by decide +kernel
theorem dX10_isChanged_52 : decode cX10_isChanged 52 = .ok (.ireturn, 1) := by decide +kernel
theorem dX10_isStopped_0 : decode cX10_isStopped 0 = .ok (.aload_n 1, 1) := by decide +kernel
theorem dX10_isStopped_1 : decode cX10_isStopped 1 = .ok (.bipush 21, 2) := by decide +kernel
theorem dX10_isStopped_3 : decode cX10_isStopped 3 = .ok (.iaload, 1) := by decide +kernel
theorem dX10_isStopped_4 : decode cX10_isStopped 4 = .ok (.istore_n 2, 1) := by decide +kernel
theorem dX10_isStopped_5 : decode cX10_isStopped 5 = .ok (.aload_n 0, 1) := by decide +kernel
theorem dX10_isStopped_6 : decode cX10_isStopped 6 = .ok (.aload_n 1, 1) := by decide +kernel
theorem dX10_isStopped_7 : decode cX10_isStopped 7 = .ok (.iload_n 2, 1) := by decide +kernel
theorem dX10_isStopped_8 : decode cX10_isStopped 8 = .ok (.invokevirtual 166, 3) := by decide +kernel
theorem dX10_isStopped_11 : decode cX10_isStopped 11 = .ok (.ifCond .ne 5, 3) := by decide +kernel
theorem dX10_isStopped_14 : decode cX10_isStopped 14 = .ok (.iconst 0, 1) := by decide +kernel
theorem dX10_isStopped_15 : decode cX10_isStopped 15 = .ok (.ireturn, 1) := by decide +kernel
theorem dX10_isStopped_16 : decode cX10_isStopped 16 = .ok (.aload_n 1, 1) := by decide +kernel
theorem dX10_isStopped_17 : decode cX10_isStopped 17 = .ok (.bipush 90, 2) := by decide +kernel
theorem dX10_isStopped_19 : decode cX10_isStopped 19 = .ok (.iload_n 2, 1) := by decide +kernel
theorem dX10_isStopped_20 : decode cX10_isStopped 20 = .ok (.iadd, 1) := by decide +kernel
theorem dX10_isStopped_21 : decode cX10_isStopped 21 = .ok (.iaload, 1) := by decide +kernel
theorem dX10_isStopped_22 : decode cX10_isStopped 22 = .ok (.ifCond .le 15, 3) := by decide +kernel
theorem dX10_isStopped_25 : decode cX10_isStopped 25 = .ok (.aload_n 1, 1) := by decide +kernel
theorem dX10_isStopped_26 : decode cX10_isStopped 26 = .ok (.bipush 90, 2) := by decide +kernel
theorem dX10_isStopped_28 : decode cX10_isStopped 28 = .ok (.iload_n 2, 1) := by decide +kernel
theorem dX10_isStopped_29 : decode cX10_isStopped 29 = .ok (.iadd, 1) := by decide +kernel
theorem dX10_isStopped_30 : decode cX10_isStopped 30 = .ok (.dup2, 1) := by decide +kernel
theorem dX10_isStopped_31 : decode cX10_isStopped 31 = .ok (.iaload, 1) := by decide +kernel
theorem dX10_isStopped_32 : decode cX10_isStopped 32 = .ok (.iconst 1, 1) := by decide +kernel
theorem dX10_isStopped_33 : decode cX10_isStopped 33 = .ok (.isub, 1) := by decide +kernel
theorem dX10_isStopped_34 : decode cX10_isStopped 34 = .ok (.iastore, 1) := by decide +kernel
theorem dX10_isStopped_35 : decode cX10_isStopped 35 = .ok (.iconst 0, 1) := by decide +kernel
theorem dX10_isStopped_36 : decode cX10_isStopped 36 = .ok (.ireturn, 1) := by decide +kernel
theorem dX10_isStopped_37 : decode cX10_isStopped 37 = .ok (.aload_n 1, 1) := by decide +kernel
theorem dX10_isStopped_38 : decode cX10_isStopped 38 = .ok (.bipush 106, 2) := by decide +kernel
theorem dX10_isStopped_40 : decode cX10_isStopped 40 = .ok (.iload_n 2, 1) := by decide +kernel
theorem dX10_isStopped_41 : decode cX10_isStopped 41 = .ok (.iadd, 1) := by decide +kernel
theorem dX10_isStopped_42 : decode cX10_isStopped 42 = .ok (.dup2, 1) := by decide +kernel
theorem dX10_isStopped_43 : decode cX10_isStopped 43 = .ok (.iaload, 1) := by decide +kernel
theorem dX10_isStopped_44 : decode cX10_isStopped 44 = .ok (.iconst 1, 1) := by decide +kernel
theorem dX10_isStopped_45 : decode cX10_isStopped 45 = .ok (.iadd, 1) := by decide +kernel
theorem dX10_isStopped_46 : decode cX10_isStopped 46 = .ok (.iastore, 1) := by decide +kernel
theorem dX10_isStopped_47 : decode cX10_isStopped 47 = .ok (.iconst 1, 1) := by decide +kernel
theorem dX10_isStopped_48 : decode cX10_isStopped 48 = .ok (.ireturn, 1) := by decide +kernel
theorem dX10_isThrough_0 : decode cX10_isThrough 0 = .ok (.iload_n 0, 1) := by decide +kernel
theorem dX10_isThrough_1 : decode cX10_isThrough 1 = .ok (.ifCond .eq 23, 3) := by decide +kernel
theorem dX10_isThrough_4 : decode cX10_isThrough 4 = .ok (.iload_n 0, 1) := by decide +kernel
theorem dX10_isThrough_5 : decode cX10_isThrough 5 = .ok (.iconst 1, 1) := by decide +kernel
theorem dX10_isThrough_6 : decode cX10_isThrough 6 = .ok (.if_icmp .ne 8, 3) := by decide +kernel
theorem dX10_isThrough_9 : decode cX10_isThrough 9 = .ok (.iload_n 2, 1) := by decide +kernel
theorem dX10_isThrough_10 : decode cX10_isThrough 10 = .ok (.iload_n 1, 1) := by decide +kernel
theorem dX10_isThrough_11 : decode cX10_isThrough 11 = .ok (.if_icmp .le 13, 3) := by decide +kernel
theorem dX10_isThrough_14 : decode cX10_isThrough 14 = .ok (.iload_n 0, 1) := by decide +kernel
theorem dX10_isThrough_15 : decode cX10_isThrough 15 = .ok (.iconst 2, 1) := by decide +kernel
theorem dX10_isThrough_16 : decode cX10_isThrough 16 = .ok (.if_icmp .ne 12, 3) := by decide +kernel
theorem dX10_isThrough_19 : decode cX10_isThrough 19 = .ok (.iload_n 2, 1) := by decide +kernel
theorem dX10_isThrough_20 : decode cX10_isThrough 20 = .ok (.iload_n 1, 1) := by decide +kernel
theorem dX10_isThrough_21 : decode cX10_isThrough 21 = .ok (.if_icmp .ge 7, 3) := by decide +kernel
theorem dX10_isThrough_24 : decode cX10_isThrough 24 = .ok (.iconst 1, 1) := by decide +kernel
theorem dX10_isThrough_25 : decode cX10_isThrough 25 = .ok (.goto 4, 3) := by decide +kernel
theorem dX10_isThrough_28 : decode cX10_isThrough 28 = .ok (.iconst 0, 1) := by decide +kernel
theorem dX10_isThrough_29 : decode cX10_isThrough 29 = .ok (.ireturn, 1) := by decide +kernel
theorem dX10_reason_0 : decode cX10_reason 0 = .ok (.aload_n 1, 1) := by decide +kernel
theorem dX10_reason_1 : decode cX10_reason 1 = .ok (.bipush 22, 2) := by decide +kernel
theorem dX10_reason_3 : decode cX10_reason 3 = .ok (.iaload, 1) := by decide +kernel
theorem dX10_reason_4 : decode cX10_reason 4 = .ok (.iconst 1, 1) := by decide +kernel
theorem dX10_reason_5 : decode cX10_reason 5 = .ok (.if_icmp .ne 5, 3) := by decide +kernel
theorem dX10_reason_8 : decode cX10_reason 8 = .ok (.iconst 3, 1) := by decide +kernel
theorem dX10_reason_9 : decode cX10_reason 9 = .ok (.ireturn, 1) := by decide +kernel
theorem dX10_reason_10 : decode cX10_reason 10 = .ok (.aload_n 0, 1) := by decide +kernel
theorem dX10_reason_11 : decode cX10_reason 11 = .ok (.aload_n 1, 1) := by decide +kernel
theorem dX10_reason_12 : decode cX10_reason 12 = .ok (.invokevirtual 169, 3) := by decide +kernel
theorem dX10_reason_15 : decode cX10_reason 15 = .ok (.ifCond .eq 5, 3) := by decide +kernel
theorem dX10_reason_18 : decode cX10_reason 18 = .ok (.iconst 2, 1) := by decide +kernel
theorem dX10_reason_19 : decode cX10_reason 19 = .ok (.ireturn, 1) := by decide +kernel
theorem dX10_reason_20 : decode cX10_reason 20 = .ok (.aload_n 0, 1) := by decide +kernel
theorem dX10_reason_21 : decode cX10_reason 21 = .ok (.aload_n 1, 1) := by decide +kernel
theorem dX10_reason_22 : decode cX10_reason 22 = .ok (.invokevirtual 172, 3) := by decide +kernel
theorem dX10_reason_25 : decode cX10_reason 25 = .ok (.ifCond .eq 5, 3) := by decide +kernel
theorem dX10_reason_28 : decode cX10_reason 28 = .ok (.iconst 1, 1) := by decide +kernel
theorem dX10_reason_29 : decode cX10_reason 29 = .ok (.ireturn, 1) := by decide +kernel
theorem dX10_reason_30 : decode cX10_reason 30 = .ok (.iload_n 2, 1) := by decide +kernel
theorem dX10_reason_31 : decode cX10_reason 31 = .ok (.iload_n 3, 1) := by decide +kernel
theorem dX10_reason_32 : decode cX10_reason 32 = .ok (.aload_n 1, 1) := by decide +kernel
theorem dX10_reason_33 : decode cX10_reason 33 = .ok (.bipush 20, 2) := by decide +kernel
theorem dX10_reason_35 : decode cX10_reason 35 = .ok (.iaload, 1) := by decide +kernel
theorem dX10_reason_36 : decode cX10_reason 36 = .ok (.invokestatic 175, 3) := by decide +kernel
theorem dX10_reason_39 : decode cX10_reason 39 = .ok (.ifCond .eq 5, 3) := by decide +kernel
theorem dX10_reason_42 : decode cX10_reason 42 = .ok (.iconst 0, 1) := by decide +kernel
theorem dX10_reason_43 : decode cX10_reason 43 = .ok (.ireturn, 1) := by decide +kernel
theorem dX10_reason_44 : decode cX10_reason 44 = .ok (.iload 4, 2) := by decide +kernel
theorem dX10_reason_46 : decode cX10_reason 46 = .ok (.bipush 99, 2) := by decide +kernel
theorem dX10_reason_48 : decode cX10_reason 48 = .ok (.if_icmp .ne 7, 3) := by decide +kernel
theorem dX10_reason_51 : decode cX10_reason 51 = .ok (.iconst 5, 1) := by decide +kernel
theorem dX10_reason_52 : decode cX10_reason 52 = .ok (.goto 5, 3) := by decide +kernel
theorem dX10_reason_55 : decode cX10_reason 55 = .ok (.bipush (-9), 2) := by decide +kernel
theorem dX10_reason_57 : decode cX10_reason 57 = .ok (.ireturn, 1) := by decide +kernel
theorem dX10_planOn_0 : decode cX10_planOn 0 = .ok (.aload_n 1, 1) := by decide +kernel
theorem dX10_planOn_1 : decode cX10_planOn 1 = .ok (.bipush 22, 2) := by decide +kernel
theorem dX10_planOn_3 : decode cX10_planOn 3 = .ok (.iaload, 1) := by decide +kernel
theorem dX10_planOn_4 : decode cX10_planOn 4 = .ok (.iconst 1, 1) := by decide +kernel
theorem dX10_planOn_5 : decode cX10_planOn 5 = .ok (.if_icmp .ne 5, 3) := by decide +kernel
theorem dX10_planOn_8 : decode cX10_planOn 8 = .ok (.iconst 3, 1) := by decide +kernel
theorem dX10_planOn_9 : decode cX10_planOn 9 = .ok (.ireturn, 1) := by decide +kernel
theorem dX10_planOn_10 : decode cX10_planOn 10 = .ok (.aload_n 1, 1) := by decide +kernel
theorem dX10_planOn_11 : decode cX10_planOn 11 = .ok (.bipush 20, 2) := by decide +kernel
theorem dX10_planOn_13 : decode cX10_planOn 13 = .ok (.iaload, 1) := by decide +kernel
theorem dX10_planOn_14 : decode cX10_planOn 14 = .ok (.istore_n 3, 1) := by decide +kernel
theorem dX10_planOn_15 : decode cX10_planOn 15 = .ok (.iconst 1, 1) := by decide +kernel
theorem dX10_planOn_16 : decode cX10_planOn 16 = .ok (.istore 4, 2) := by decide +kernel
theorem dX10_planOn_18 : decode cX10_planOn 18 = .ok (.iload 4, 2) := by decide +kernel
theorem dX10_planOn_20 : decode cX10_planOn 20 = .ok (.bipush 100, 2) := by decide +kernel
theorem dX10_planOn_22 : decode cX10_planOn 22 = .ok (.if_icmp .ge 69, 3) := by decide +kernel
theorem dX10_planOn_25 : decode cX10_planOn 25 = .ok (.iconst 0, 1) := by decide +kernel
theorem dX10_planOn_26 : decode cX10_planOn 26 = .ok (.istore 5, 2) := by decide +kernel
theorem dX10_planOn_28 : decode cX10_planOn 28 = .ok (.iload 5, 2) := by decide +kernel
theorem dX10_planOn_30 : decode cX10_planOn 30 = .ok (.bipush 8, 2) := by decide +kernel
theorem dX10_planOn_32 : decode cX10_planOn 32 = .ok (.if_icmp .ge 22, 3) := by decide +kernel
theorem dX10_planOn_35 : decode cX10_planOn 35 = .ok (.aload_n 0, 1) := by decide +kernel
theorem dX10_planOn_36 : decode cX10_planOn 36 = .ok (.getfield 44, 3) := by decide +kernel
theorem dX10_planOn_39 : decode cX10_planOn 39 = .ok (.iload 5, 2) := by decide +kernel
theorem dX10_planOn_41 : decode cX10_planOn 41 = .ok (.aload_n 1, 1) := by decide +kernel
theorem dX10_planOn_42 : decode cX10_planOn 42 = .ok (.iconst 4, 1) := by decide +kernel
theorem dX10_planOn_43 : decode cX10_planOn 43 = .ok (.iload 5, 2) := by decide +kernel
theorem dX10_planOn_45 : decode cX10_planOn 45 = .ok (.iadd, 1) := by decide +kernel
theorem dX10_planOn_46 : decode cX10_planOn 46 = .ok (.iaload, 1) := by decide +kernel
theorem dX10_planOn_47 : decode cX10_planOn 47 = .ok (.iastore, 1) := by decide +kernel
theorem dX10_planOn_48 : decode cX10_planOn 48 = .ok (.iinc 5 1, 3) := by decide +kernel
theorem dX10_planOn_51 : decode cX10_planOn 51 = .ok (.goto (-23), 3) := by decide +kernel
theorem dX10_planOn_54 : decode cX10_planOn 54 = .ok (.aload_n 0, 1) := by decide +kernel
theorem dX10_planOn_55 : decode cX10_planOn 55 = .ok (.aload_n 1, 1) := by decide +kernel
theorem dX10_planOn_56 : decode cX10_planOn 56 = .ok (.invokevirtual 179, 3) := by decide +kernel
theorem dX10_planOn_59 : decode cX10_planOn 59 = .ok (.ifCond .ne 5, 3) := by decide +kernel
theorem dX10_planOn_62 : decode cX10_planOn 62 = .ok (.iconst 4, 1) := by decide +kernel
theorem dX10_planOn_63 : decode cX10_planOn 63 = .ok (.ireturn, 1) := by decide +kernel
theorem dX10_planOn_64 : decode cX10_planOn 64 = .ok (.aload_n 0, 1) := by decide +kernel
theorem dX10_planOn_65 : decode cX10_planOn 65 = .ok (.aload_n 1, 1) := by decide +kernel
theorem dX10_planOn_66 : decode cX10_planOn 66 = .ok (.iload_n 2, 1) := by decide +kernel
theorem dX10_planOn_67 : decode cX10_planOn 67 = .ok (.iload_n 3, 1) := by decide +kernel
theorem dX10_planOn_68 : decode cX10_planOn 68 = .ok (.iload 4, 2) := by decide +kernel
theorem dX10_planOn_70 : decode cX10_planOn 70 = .ok (.invokevirtual 182, 3) := by decide +kernel
theorem dX10_planOn_73 : decode cX10_planOn 73 = .ok (.istore 5, 2) := by decide +kernel
theorem dX10_planOn_75 : decode cX10_planOn 75 = .ok (.iload 5, 2) := by decide +kernel
theorem dX10_planOn_77 : decode cX10_planOn 77 = .ok (.bipush (-9), 2) := by decide +kernel
theorem dX10_planOn_79 : decode cX10_planOn 79 = .ok (.if_icmp .eq 6, 3) := by decide +kernel
theorem dX10_planOn_82 : decode cX10_planOn 82 = .ok (.iload 5, 2) := by decide +kernel
theorem dX10_planOn_84 : decode cX10_planOn 84 = .ok (.ireturn, 1) := by decide +kernel
theorem dX10_planOn_85 : decode cX10_planOn 85 = .ok (.iinc 4 1, 3) := by decide +kernel
theorem dX10_planOn_88 : decode cX10_planOn 88 = .ok (.goto (-70), 3) := by decide +kernel
theorem dX10_planOn_91 : decode cX10_planOn 91 = .ok (.iconst 5, 1) := by decide +kernel
theorem dX10_planOn_92 : decode cX10_planOn 92 = .ok (.ireturn, 1) := by decide +kernel
theorem dX10_freeOn_0 : decode cX10_freeOn 0 = .ok (.aload_n 0, 1) := by decide +kernel
theorem dX10_freeOn_1 : decode cX10_freeOn 1 = .ok (.iconst 0, 1) := by decide +kernel
theorem dX10_freeOn_2 : decode cX10_freeOn 2 = .ok (.putfield 186, 3) := by decide +kernel
theorem dX10_freeOn_5 : decode cX10_freeOn 5 = .ok (.aload_n 0, 1) := by decide +kernel
theorem dX10_freeOn_6 : decode cX10_freeOn 6 = .ok (.getfield 25, 3) := by decide +kernel
theorem dX10_freeOn_9 : decode cX10_freeOn 9 = .ok (.bipush 22, 2) := by decide +kernel
theorem dX10_freeOn_11 : decode cX10_freeOn 11 = .ok (.iaload, 1) := by decide +kernel
theorem dX10_freeOn_12 : decode cX10_freeOn 12 = .ok (.ifCond .ne 39, 3) := by decide +kernel
theorem dX10_freeOn_15 : decode cX10_freeOn 15 = .ok (.aload_n 0, 1) := by decide +kernel
theorem dX10_freeOn_16 : decode cX10_freeOn 16 = .ok (.getfield 186, 3) := by decide +kernel
theorem dX10_freeOn_19 : decode cX10_freeOn 19 = .ok (.sipush 300, 3) := by decide +kernel
theorem dX10_freeOn_22 : decode cX10_freeOn 22 = .ok (.if_icmp .ge 29, 3) := by decide +kernel
theorem dX10_freeOn_25 : decode cX10_freeOn 25 = .ok (.aload_n 0, 1) := by decide +kernel
theorem dX10_freeOn_26 : decode cX10_freeOn 26 = .ok (.aload_n 0, 1) := by decide +kernel
theorem dX10_freeOn_27 : decode cX10_freeOn 27 = .ok (.getfield 25, 3) := by decide +kernel
theorem dX10_freeOn_30 : decode cX10_freeOn 30 = .ok (.invokevirtual 152, 3) := by decide +kernel
theorem dX10_freeOn_33 : decode cX10_freeOn 33 = .ok (.ifCond .ne 5, 3) := by decide +kernel
theorem dX10_freeOn_36 : decode cX10_freeOn 36 = .ok (.iconst 4, 1) := by decide +kernel
theorem dX10_freeOn_37 : decode cX10_freeOn 37 = .ok (.ireturn, 1) := by decide +kernel
theorem dX10_freeOn_38 : decode cX10_freeOn 38 = .ok (.aload_n 0, 1) := by decide +kernel
theorem dX10_freeOn_39 : decode cX10_freeOn 39 = .ok (.dup, 1) := by decide +kernel
theorem dX10_freeOn_40 : decode cX10_freeOn 40 = .ok (.getfield 186, 3) := by decide +kernel
theorem dX10_freeOn_43 : decode cX10_freeOn 43 = .ok (.iconst 1, 1) := by decide +kernel
theorem dX10_freeOn_44 : decode cX10_freeOn 44 = .ok (.iadd, 1) := by decide +kernel
theorem dX10_freeOn_45 : decode cX10_freeOn 45 = .ok (.putfield 186, 3) := by decide +kernel
theorem dX10_freeOn_48 : decode cX10_freeOn 48 = .ok (.goto (-43), 3) := by decide +kernel
theorem dX10_freeOn_51 : decode cX10_freeOn 51 = .ok (.aload_n 0, 1) := by decide +kernel
theorem dX10_freeOn_52 : decode cX10_freeOn 52 = .ok (.getfield 25, 3) := by decide +kernel
theorem dX10_freeOn_55 : decode cX10_freeOn 55 = .ok (.bipush 22, 2) := by decide +kernel
theorem dX10_freeOn_57 : decode cX10_freeOn 57 = .ok (.iaload, 1) := by decide +kernel
theorem dX10_freeOn_58 : decode cX10_freeOn 58 = .ok (.iconst 1, 1) := by decide +kernel
theorem dX10_freeOn_59 : decode cX10_freeOn 59 = .ok (.if_icmp .ne 7, 3) := by decide +kernel
theorem dX10_freeOn_62 : decode cX10_freeOn 62 = .ok (.iconst 3, 1) := by decide +kernel
theorem dX10_freeOn_63 : decode cX10_freeOn 63 = .ok (.goto 4, 3) := by decide +kernel
theorem dX10_freeOn_66 : decode cX10_freeOn 66 = .ok (.iconst 5, 1) := by decide +kernel
theorem dX10_freeOn_67 : decode cX10_freeOn 67 = .ok (.ireturn, 1) := by decide +kernel
theorem dX10_counted_0 : decode cX10_counted 0 = .ok (.iconst 0, 1) := by decide +kernel
theorem dX10_counted_1 : decode cX10_counted 1 = .ok (.istore_n 1, 1) := by decide +kernel
theorem dX10_counted_2 : decode cX10_counted 2 = .ok (.iconst 0, 1) := by decide +kernel
theorem dX10_counted_3 : decode cX10_counted 3 = .ok (.istore_n 2, 1) := by decide +kernel
theorem dX10_counted_4 : decode cX10_counted 4 = .ok (.iload_n 2, 1) := by decide +kernel
theorem dX10_counted_5 : decode cX10_counted 5 = .ok (.aload_n 0, 1) := by decide +kernel
theorem dX10_counted_6 : decode cX10_counted 6 = .ok (.getfield 70, 3) := by decide +kernel
theorem dX10_counted_9 : decode cX10_counted 9 = .ok (.if_icmp .ge 31, 3) := by decide +kernel
theorem dX10_counted_12 : decode cX10_counted 12 = .ok (.iload_n 1, 1) := by decide +kernel
theorem dX10_counted_13 : decode cX10_counted 13 = .ok (.aload_n 0, 1) := by decide +kernel
theorem dX10_counted_14 : decode cX10_counted 14 = .ok (.getfield 22, 3) := by decide +kernel
theorem dX10_counted_17 : decode cX10_counted 17 = .ok (.bipush 26, 2) := by decide +kernel
theorem dX10_counted_19 : decode cX10_counted 19 = .ok (.iload_n 2, 1) := by decide +kernel
theorem dX10_counted_20 : decode cX10_counted 20 = .ok (.iadd, 1) := by decide +kernel
theorem dX10_counted_21 : decode cX10_counted 21 = .ok (.iaload, 1) := by decide +kernel
theorem dX10_counted_22 : decode cX10_counted 22 = .ok (.ifCond .le 9, 3) := by decide +kernel
theorem dX10_counted_25 : decode cX10_counted 25 = .ok (.iconst 1, 1) := by decide +kernel
theorem dX10_counted_26 : decode cX10_counted 26 = .ok (.iload_n 2, 1) := by decide +kernel
theorem dX10_counted_27 : decode cX10_counted 27 = .ok (.ishl, 1) := by decide +kernel
theorem dX10_counted_28 : decode cX10_counted 28 = .ok (.goto 4, 3) := by decide +kernel
theorem dX10_counted_31 : decode cX10_counted 31 = .ok (.iconst 0, 1) := by decide +kernel
theorem dX10_counted_32 : decode cX10_counted 32 = .ok (.ior, 1) := by decide +kernel
theorem dX10_counted_33 : decode cX10_counted 33 = .ok (.istore_n 1, 1) := by decide +kernel
theorem dX10_counted_34 : decode cX10_counted 34 = .ok (.iinc 2 1, 3) := by decide +kernel
theorem dX10_counted_37 : decode cX10_counted 37 = .ok (.goto (-33), 3) := by decide +kernel
theorem dX10_counted_40 : decode cX10_counted 40 = .ok (.iload_n 1, 1) := by decide +kernel
theorem dX10_counted_41 : decode cX10_counted 41 = .ok (.ireturn, 1) := by decide +kernel
theorem dX10_unlike_0 : decode cX10_unlike 0 = .ok (.iconst 0, 1) := by decide +kernel
theorem dX10_unlike_1 : decode cX10_unlike 1 = .ok (.istore_n 1, 1) := by decide +kernel
theorem dX10_unlike_2 : decode cX10_unlike 2 = .ok (.iconst 0, 1) := by decide +kernel
theorem dX10_unlike_3 : decode cX10_unlike 3 = .ok (.istore_n 2, 1) := by decide +kernel
theorem dX10_unlike_4 : decode cX10_unlike 4 = .ok (.iload_n 2, 1) := by decide +kernel
theorem dX10_unlike_5 : decode cX10_unlike 5 = .ok (.aload_n 0, 1) := by decide +kernel
theorem dX10_unlike_6 : decode cX10_unlike 6 = .ok (.getfield 70, 3) := by decide +kernel
theorem dX10_unlike_9 : decode cX10_unlike 9 = .ok (.if_icmp .ge 26, 3) := by decide +kernel
theorem dX10_unlike_12 : decode cX10_unlike 12 = .ok (.iload_n 1, 1) := by decide +kernel
theorem dX10_unlike_13 : decode cX10_unlike 13 = .ok (.aload_n 0, 1) := by decide +kernel
theorem dX10_unlike_14 : decode cX10_unlike 14 = .ok (.iload_n 2, 1) := by decide +kernel
theorem dX10_unlike_15 : decode cX10_unlike 15 = .ok (.invokevirtual 149, 3) := by decide +kernel
theorem dX10_unlike_18 : decode cX10_unlike 18 = .ok (.iload_n 2, 1) := by decide +kernel
theorem dX10_unlike_19 : decode cX10_unlike 19 = .ok (.if_icmp .ne 7, 3) := by decide +kernel
theorem dX10_unlike_22 : decode cX10_unlike 22 = .ok (.iconst 1, 1) := by decide +kernel
theorem dX10_unlike_23 : decode cX10_unlike 23 = .ok (.goto 4, 3) := by decide +kernel
theorem dX10_unlike_26 : decode cX10_unlike 26 = .ok (.iconst 0, 1) := by decide +kernel
theorem dX10_unlike_27 : decode cX10_unlike 27 = .ok (.iadd, 1) := by decide +kernel
theorem dX10_unlike_28 : decode cX10_unlike 28 = .ok (.istore_n 1, 1) := by decide +kernel
theorem dX10_unlike_29 : decode cX10_unlike 29 = .ok (.iinc 2 1, 3) := by decide +kernel
theorem dX10_unlike_32 : decode cX10_unlike 32 = .ok (.goto (-28), 3) := by decide +kernel
theorem dX10_unlike_35 : decode cX10_unlike 35 = .ok (.iload_n 1, 1) := by decide +kernel
theorem dX10_unlike_36 : decode cX10_unlike 36 = .ok (.ireturn, 1) := by decide +kernel
theorem dX10_about_0 : decode cX10_about 0 = .ok (.iload_n 1, 1) := by decide +kernel
theorem dX10_about_1 : decode cX10_about 1 = .ok (.tableswitch 177 0 14 #[75, 80, 88, 96, 104, 112, 120, 125, 133, 141, 149, 157, 162, 167, 172], 75) := by decide +kernel
theorem dX10_about_76 : decode cX10_about 76 = .ok (.aload_n 0, 1) := by decide +kernel
theorem dX10_about_77 : decode cX10_about 77 = .ok (.getfield 70, 3) := by decide +kernel
theorem dX10_about_80 : decode cX10_about 80 = .ok (.ireturn, 1) := by decide +kernel
theorem dX10_about_81 : decode cX10_about 81 = .ok (.aload_n 0, 1) := by decide +kernel
theorem dX10_about_82 : decode cX10_about 82 = .ok (.getfield 22, 3) := by decide +kernel
theorem dX10_about_85 : decode cX10_about 85 = .ok (.bipush 21, 2) := by decide +kernel
theorem dX10_about_87 : decode cX10_about 87 = .ok (.iaload, 1) := by decide +kernel
theorem dX10_about_88 : decode cX10_about 88 = .ok (.ireturn, 1) := by decide +kernel
theorem dX10_about_89 : decode cX10_about 89 = .ok (.aload_n 0, 1) := by decide +kernel
theorem dX10_about_90 : decode cX10_about 90 = .ok (.getfield 22, 3) := by decide +kernel
theorem dX10_about_93 : decode cX10_about 93 = .ok (.bipush 20, 2) := by decide +kernel
theorem dX10_about_95 : decode cX10_about 95 = .ok (.iaload, 1) := by decide +kernel
theorem dX10_about_96 : decode cX10_about 96 = .ok (.ireturn, 1) := by decide +kernel
theorem dX10_about_97 : decode cX10_about 97 = .ok (.aload_n 0, 1) := by decide +kernel
theorem dX10_about_98 : decode cX10_about 98 = .ok (.getfield 22, 3) := by decide +kernel
theorem dX10_about_101 : decode cX10_about 101 = .ok (.bipush 22, 2) := by decide +kernel
theorem dX10_about_103 : decode cX10_about 103 = .ok (.iaload, 1) := by decide +kernel
theorem dX10_about_104 : decode cX10_about 104 = .ok (.ireturn, 1) := by decide +kernel
theorem dX10_about_105 : decode cX10_about 105 = .ok (.aload_n 0, 1) := by decide +kernel
theorem dX10_about_106 : decode cX10_about 106 = .ok (.getfield 22, 3) := by decide +kernel
theorem dX10_about_109 : decode cX10_about 109 = .ok (.bipush 23, 2) := by decide +kernel
theorem dX10_about_111 : decode cX10_about 111 = .ok (.iaload, 1) := by decide +kernel
theorem dX10_about_112 : decode cX10_about 112 = .ok (.ireturn, 1) := by decide +kernel
theorem dX10_about_113 : decode cX10_about 113 = .ok (.aload_n 0, 1) := by decide +kernel
theorem dX10_about_114 : decode cX10_about 114 = .ok (.getfield 22, 3) := by decide +kernel
theorem dX10_about_117 : decode cX10_about 117 = .ok (.bipush 24, 2) := by decide +kernel
theorem dX10_about_119 : decode cX10_about 119 = .ok (.iaload, 1) := by decide +kernel
theorem dX10_about_120 : decode cX10_about 120 = .ok (.ireturn, 1) := by decide +kernel
theorem dX10_about_121 : decode cX10_about 121 = .ok (.aload_n 0, 1) := by decide +kernel
theorem dX10_about_122 : decode cX10_about 122 = .ok (.invokevirtual 189, 3) := by decide +kernel
theorem dX10_about_125 : decode cX10_about 125 = .ok (.ireturn, 1) := by decide +kernel
theorem dX10_about_126 : decode cX10_about 126 = .ok (.aload_n 0, 1) := by decide +kernel
