theorem dX9_init_0 : decode cX9_init 0 = .ok (.aload_n 0, 1) := by decide +kernel
theorem dX9_init_1 : decode cX9_init 1 = .ok (.invokespecial 1, 3) := by decide +kernel
theorem dX9_init_4 : decode cX9_init 4 = .ok (.aload_n 0, 1) := by decide +kernel
theorem dX9_init_5 : decode cX9_init 5 = .ok (.new 7, 3) := by decide +kernel
theorem dX9_init_8 : decode cX9_init 8 = .ok (.dup, 1) := by decide +kernel
theorem dX9_init_9 : decode cX9_init 9 = .ok (.invokespecial 9, 3) := by decide +kernel
theorem dX9_init_12 : decode cX9_init 12 = .ok (.putfield 10, 3) := by decide +kernel
theorem dX9_init_15 : decode cX9_init 15 = .ok (.aload_n 0, 1) := by decide +kernel
theorem dX9_init_16 : decode cX9_init 16 = .ok (.new 16, 3) := by decide +kernel
theorem dX9_init_19 : decode cX9_init 19 = .ok (.dup, 1) := by decide +kernel
theorem dX9_init_20 : decode cX9_init 20 = .ok (.invokespecial 18, 3) := by decide +kernel
theorem dX9_init_23 : decode cX9_init 23 = .ok (.putfield 19, 3) := by decide +kernel
theorem dX9_init_26 : decode cX9_init 26 = .ok (.aload_n 0, 1) := by decide +kernel
theorem dX9_init_27 : decode cX9_init 27 = .ok (.new 16, 3) := by decide +kernel
theorem dX9_init_30 : decode cX9_init 30 = .ok (.dup, 1) := by decide +kernel
theorem dX9_init_31 : decode cX9_init 31 = .ok (.invokespecial 18, 3) := by decide +kernel
theorem dX9_init_34 : decode cX9_init 34 = .ok (.putfield 23, 3) := by decide +kernel
theorem dX9_init_37 : decode cX9_init 37 = .ok (.aload_n 0, 1) := by decide +kernel
theorem dX9_init_38 : decode cX9_init 38 = .ok (.new 26, 3) := by decide +kernel
theorem dX9_init_41 : decode cX9_init 41 = .ok (.dup, 1) := by decide +kernel
theorem dX9_init_42 : decode cX9_init 42 = .ok (.invokespecial 28, 3) := by decide +kernel
theorem dX9_init_45 : decode cX9_init 45 = .ok (.putfield 29, 3) := by decide +kernel
theorem dX9_init_48 : decode cX9_init 48 = .ok (.aload_n 0, 1) := by decide +kernel
theorem dX9_init_49 : decode cX9_init 49 = .ok (.new 26, 3) := by decide +kernel
theorem dX9_init_52 : decode cX9_init 52 = .ok (.dup, 1) := by decide +kernel
theorem dX9_init_53 : decode cX9_init 53 = .ok (.invokespecial 28, 3) := by decide +kernel
theorem dX9_init_56 : decode cX9_init 56 = .ok (.putfield 33, 3) := by decide +kernel
theorem dX9_init_59 : decode cX9_init 59 = .ok (.aload_n 0, 1) := by decide +kernel
theorem dX9_init_60 : decode cX9_init 60 = .ok (.new 36, 3) := by decide +kernel
theorem dX9_init_63 : decode cX9_init 63 = .ok (.dup, 1) := by decide +kernel
theorem dX9_init_64 : decode cX9_init 64 = .ok (.invokespecial 38, 3) := by decide +kernel
theorem dX9_init_67 : decode cX9_init 67 = .ok (.putfield 39, 3) := by decide +kernel
theorem dX9_init_70 : decode cX9_init 70 = .ok (.aload_n 0, 1) := by decide +kernel
theorem dX9_init_71 : decode cX9_init 71 = .ok (.iconst 2, 1) := by decide +kernel
theorem dX9_init_72 : decode cX9_init 72 = .ok (.anewarray 26, 3) := by decide +kernel
theorem dX9_init_75 : decode cX9_init 75 = .ok (.putfield 43, 3) := by decide +kernel
theorem dX9_init_78 : decode cX9_init 78 = .ok (.aload_n 0, 1) := by decide +kernel
theorem dX9_init_79 : decode cX9_init 79 = .ok (.iconst 2, 1) := by decide +kernel
theorem dX9_init_80 : decode cX9_init 80 = .ok (.newarray .boolean, 2) := by decide +kernel
theorem dX9_init_82 : decode cX9_init 82 = .ok (.putfield 47, 3) := by decide +kernel
theorem dX9_init_85 : decode cX9_init 85 = .ok (.aload_n 0, 1) := by decide +kernel
theorem dX9_init_86 : decode cX9_init 86 = .ok (.new 51, 3) := by decide +kernel
theorem dX9_init_89 : decode cX9_init 89 = .ok (.dup, 1) := by decide +kernel
theorem dX9_init_90 : decode cX9_init 90 = .ok (.invokespecial 53, 3) := by decide +kernel
theorem dX9_init_93 : decode cX9_init 93 = .ok (.putfield 54, 3) := by decide +kernel
theorem dX9_init_96 : decode cX9_init 96 = .ok (.aload_n 0, 1) := by decide +kernel
theorem dX9_init_97 : decode cX9_init 97 = .ok (.new 58, 3) := by decide +kernel
theorem dX9_init_100 : decode cX9_init 100 = .ok (.dup, 1) := by decide +kernel
theorem dX9_init_101 : decode cX9_init 101 = .ok (.invokespecial 60, 3) := by decide +kernel
theorem dX9_init_104 : decode cX9_init 104 = .ok (.putfield 61, 3) := by decide +kernel
theorem dX9_init_107 : decode cX9_init 107 = .ok (.aload_n 0, 1) := by decide +kernel
theorem dX9_init_108 : decode cX9_init 108 = .ok (.new 65, 3) := by decide +kernel
theorem dX9_init_111 : decode cX9_init 111 = .ok (.dup, 1) := by decide +kernel
theorem dX9_init_112 : decode cX9_init 112 = .ok (.invokespecial 67, 3) := by decide +kernel
theorem dX9_init_115 : decode cX9_init 115 = .ok (.putfield 68, 3) := by decide +kernel
theorem dX9_init_118 : decode cX9_init 118 = .ok (.iconst 0, 1) := by decide +kernel
theorem dX9_init_119 : decode cX9_init 119 = .ok (.istore_n 1, 1) := by decide +kernel
theorem dX9_init_120 : decode cX9_init 120 = .ok (.iload_n 1, 1) := by decide +kernel
theorem dX9_init_121 : decode cX9_init 121 = .ok (.iconst 2, 1) := by decide +kernel
theorem dX9_init_122 : decode cX9_init 122 = .ok (.if_icmp .ge 22, 3) := by decide +kernel
theorem dX9_init_125 : decode cX9_init 125 = .ok (.aload_n 0, 1) := by decide +kernel
theorem dX9_init_126 : decode cX9_init 126 = .ok (.getfield 43, 3) := by decide +kernel
theorem dX9_init_129 : decode cX9_init 129 = .ok (.iload_n 1, 1) := by decide +kernel
theorem dX9_init_130 : decode cX9_init 130 = .ok (.new 26, 3) := by decide +kernel
theorem dX9_init_133 : decode cX9_init 133 = .ok (.dup, 1) := by decide +kernel
theorem dX9_init_134 : decode cX9_init 134 = .ok (.invokespecial 28, 3) := by decide +kernel
theorem dX9_init_137 : decode cX9_init 137 = .ok (.aastore, 1) := by decide +kernel
theorem dX9_init_138 : decode cX9_init 138 = .ok (.iinc 1 1, 3) := by decide +kernel
theorem dX9_init_141 : decode cX9_init 141 = .ok (.goto (-21), 3) := by decide +kernel
theorem dX9_init_144 : decode cX9_init 144 = .ok (.return_, 1) := by decide +kernel
theorem dX9_write_0 : decode cX9_write 0 = .ok (.iload_n 1, 1) := by decide +kernel
theorem dX9_write_1 : decode cX9_write 1 = .ok (.ifCond .lt 10, 3) := by decide +kernel
theorem dX9_write_4 : decode cX9_write 4 = .ok (.iload_n 1, 1) := by decide +kernel
theorem dX9_write_5 : decode cX9_write 5 = .ok (.sipush 255, 3) := by decide +kernel
theorem dX9_write_8 : decode cX9_write 8 = .ok (.if_icmp .le 6, 3) := by decide +kernel
theorem dX9_write_11 : decode cX9_write 11 = .ok (.bipush (-2), 2) := by decide +kernel
theorem dX9_write_13 : decode cX9_write 13 = .ok (.ireturn, 1) := by decide +kernel
theorem dX9_write_14 : decode cX9_write 14 = .ok (.aload_n 0, 1) := by decide +kernel
theorem dX9_write_15 : decode cX9_write 15 = .ok (.getfield 10, 3) := by decide +kernel
theorem dX9_write_18 : decode cX9_write 18 = .ok (.getfield 72, 3) := by decide +kernel
theorem dX9_write_21 : decode cX9_write 21 = .ok (.bipush 80, 2) := by decide +kernel
theorem dX9_write_23 : decode cX9_write 23 = .ok (.if_icmp .lt 6, 3) := by decide +kernel
theorem dX9_write_26 : decode cX9_write 26 = .ok (.bipush (-4), 2) := by decide +kernel
theorem dX9_write_28 : decode cX9_write 28 = .ok (.ireturn, 1) := by decide +kernel
theorem dX9_write_29 : decode cX9_write 29 = .ok (.aload_n 0, 1) := by decide +kernel
theorem dX9_write_30 : decode cX9_write 30 = .ok (.getfield 10, 3) := by decide +kernel
theorem dX9_write_33 : decode cX9_write 33 = .ok (.getfield 76, 3) := by decide +kernel
theorem dX9_write_36 : decode cX9_write 36 = .ok (.aload_n 0, 1) := by decide +kernel
theorem dX9_write_37 : decode cX9_write 37 = .ok (.getfield 10, 3) := by decide +kernel
theorem dX9_write_40 : decode cX9_write 40 = .ok (.getfield 72, 3) := by decide +kernel
theorem dX9_write_43 : decode cX9_write 43 = .ok (.iload_n 1, 1) := by decide +kernel
theorem dX9_write_44 : decode cX9_write 44 = .ok (.iastore, 1) := by decide +kernel
theorem dX9_write_45 : decode cX9_write 45 = .ok (.aload_n 0, 1) := by decide +kernel
theorem dX9_write_46 : decode cX9_write 46 = .ok (.getfield 10, 3) := by decide +kernel
theorem dX9_write_49 : decode cX9_write 49 = .ok (.dup, 1) := by decide +kernel
theorem dX9_write_50 : decode cX9_write 50 = .ok (.getfield 72, 3) := by decide +kernel
theorem dX9_write_53 : decode cX9_write 53 = .ok (.iconst 1, 1) := by decide +kernel
theorem dX9_write_54 : decode cX9_write 54 = .ok (.iadd, 1) := by decide +kernel
theorem dX9_write_55 : decode cX9_write 55 = .ok (.putfield 72, 3) := by decide +kernel
theorem dX9_write_58 : decode cX9_write 58 = .ok (.aload_n 0, 1) := by decide +kernel
theorem dX9_write_59 : decode cX9_write 59 = .ok (.getfield 10, 3) := by decide +kernel
theorem dX9_write_62 : decode cX9_write 62 = .ok (.getfield 72, 3) := by decide +kernel
theorem dX9_write_65 : decode cX9_write 65 = .ok (.ireturn, 1) := by decide +kernel
theorem dX9_wipe_0 : decode cX9_wipe 0 = .ok (.aload_n 0, 1) := by decide +kernel
theorem dX9_wipe_1 : decode cX9_wipe 1 = .ok (.getfield 10, 3) := by decide +kernel
theorem dX9_wipe_4 : decode cX9_wipe 4 = .ok (.getfield 72, 3) := by decide +kernel
theorem dX9_wipe_7 : decode cX9_wipe 7 = .ok (.istore_n 1, 1) := by decide +kernel
theorem dX9_wipe_8 : decode cX9_wipe 8 = .ok (.aload_n 0, 1) := by decide +kernel
theorem dX9_wipe_9 : decode cX9_wipe 9 = .ok (.getfield 10, 3) := by decide +kernel
theorem dX9_wipe_12 : decode cX9_wipe 12 = .ok (.iconst 0, 1) := by decide +kernel
theorem dX9_wipe_13 : decode cX9_wipe 13 = .ok (.putfield 72, 3) := by decide +kernel
theorem dX9_wipe_16 : decode cX9_wipe 16 = .ok (.iload_n 1, 1) := by decide +kernel
theorem dX9_wipe_17 : decode cX9_wipe 17 = .ok (.ireturn, 1) := by decide +kernel
theorem dX9_fault_0 : decode cX9_fault 0 = .ok (.aload_n 0, 1) := by decide +kernel
theorem dX9_fault_1 : decode cX9_fault 1 = .ok (.getfield 10, 3) := by decide +kernel
theorem dX9_fault_4 : decode cX9_fault 4 = .ok (.aload_n 0, 1) := by decide +kernel
theorem dX9_fault_5 : decode cX9_fault 5 = .ok (.getfield 23, 3) := by decide +kernel
theorem dX9_fault_8 : decode cX9_fault 8 = .ok (.invokevirtual 80, 3) := by decide +kernel
theorem dX9_fault_11 : decode cX9_fault 11 = .ok (.ireturn, 1) := by decide +kernel
theorem dX9_code_0 : decode cX9_code 0 = .ok (.aload_n 0, 1) := by decide +kernel
theorem dX9_code_1 : decode cX9_code 1 = .ok (.getfield 10, 3) := by decide +kernel
theorem dX9_code_4 : decode cX9_code 4 = .ok (.aload_n 0, 1) := by decide +kernel
theorem dX9_code_5 : decode cX9_code 5 = .ok (.getfield 23, 3) := by decide +kernel
theorem dX9_code_8 : decode cX9_code 8 = .ok (.invokevirtual 80, 3) := by decide +kernel
theorem dX9_code_11 : decode cX9_code 11 = .ok (.bipush (-9), 2) := by decide +kernel
theorem dX9_code_13 : decode cX9_code 13 = .ok (.if_icmp .eq 6, 3) := by decide +kernel
theorem dX9_code_16 : decode cX9_code 16 = .ok (.bipush (-3), 2) := by decide +kernel
theorem dX9_code_18 : decode cX9_code 18 = .ok (.ireturn, 1) := by decide +kernel
theorem dX9_code_19 : decode cX9_code 19 = .ok (.aload_n 0, 1) := by decide +kernel
theorem dX9_code_20 : decode cX9_code 20 = .ok (.getfield 10, 3) := by decide +kernel
theorem dX9_code_23 : decode cX9_code 23 = .ok (.aload_n 0, 1) := by decide +kernel
theorem dX9_code_24 : decode cX9_code 24 = .ok (.getfield 19, 3) := by decide +kernel
theorem dX9_code_27 : decode cX9_code 27 = .ok (.invokevirtual 80, 3) := by decide +kernel
theorem dX9_code_30 : decode cX9_code 30 = .ok (.pop, 1) := by decide +kernel
theorem dX9_code_31 : decode cX9_code 31 = .ok (.aload_n 0, 1) := by decide +kernel
theorem dX9_code_32 : decode cX9_code 32 = .ok (.getfield 29, 3) := by decide +kernel
theorem dX9_code_35 : decode cX9_code 35 = .ok (.invokevirtual 84, 3) := by decide +kernel
theorem dX9_code_38 : decode cX9_code 38 = .ok (.aload_n 0, 1) := by decide +kernel
theorem dX9_code_39 : decode cX9_code 39 = .ok (.getfield 39, 3) := by decide +kernel
theorem dX9_code_42 : decode cX9_code 42 = .ok (.invokevirtual 87, 3) := by decide +kernel
theorem dX9_code_45 : decode cX9_code 45 = .ok (.aload_n 0, 1) := by decide +kernel
theorem dX9_code_46 : decode cX9_code 46 = .ok (.invokevirtual 90, 3) := by decide +kernel
theorem dX9_code_49 : decode cX9_code 49 = .ok (.aload_n 0, 1) := by decide +kernel
theorem dX9_code_50 : decode cX9_code 50 = .ok (.getfield 19, 3) := by decide +kernel
theorem dX9_code_53 : decode cX9_code 53 = .ok (.getfield 93, 3) := by decide +kernel
theorem dX9_code_56 : decode cX9_code 56 = .ok (.ireturn, 1) := by decide +kernel
theorem dX9_emptySlots_0 : decode cX9_emptySlots 0 = .ok (.iconst 0, 1) := by decide +kernel
theorem dX9_emptySlots_1 : decode cX9_emptySlots 1 = .ok (.istore_n 1, 1) := by decide +kernel
theorem dX9_emptySlots_2 : decode cX9_emptySlots 2 = .ok (.iload_n 1, 1) := by decide +kernel
theorem dX9_emptySlots_3 : decode cX9_emptySlots 3 = .ok (.iconst 2, 1) := by decide +kernel
theorem dX9_emptySlots_4 : decode cX9_emptySlots 4 = .ok (.if_icmp .ge 16, 3) := by decide +kernel
theorem dX9_emptySlots_7 : decode cX9_emptySlots 7 = .ok (.aload_n 0, 1) := by decide +kernel
theorem dX9_emptySlots_8 : decode cX9_emptySlots 8 = .ok (.getfield 47, 3) := by decide +kernel
theorem dX9_emptySlots_11 : decode cX9_emptySlots 11 = .ok (.iload_n 1, 1) := by decide +kernel
theorem dX9_emptySlots_12 : decode cX9_emptySlots 12 = .ok (.iconst 0, 1) := by decide +kernel
theorem dX9_emptySlots_13 : decode cX9_emptySlots 13 = .ok (.bastore, 1) := by decide +kernel
theorem dX9_emptySlots_14 : decode cX9_emptySlots 14 = .ok (.iinc 1 1, 3) := by decide +kernel
theorem dX9_emptySlots_17 : decode cX9_emptySlots 17 = .ok (.goto (-15), 3) := by decide +kernel
theorem dX9_emptySlots_20 : decode cX9_emptySlots 20 = .ok (.return_, 1) := by decide +kernel
theorem dX9_about_0 : decode cX9_about 0 = .ok (.iload_n 1, 1) := by decide +kernel
theorem dX9_about_1 : decode cX9_about 1 = .ok (.tableswitch 221 0 14 #[75, 83, 94, 105, 124, 135, 146, 157, 165, 173, 181, 189, 197, 205, 213], 75) := by decide +kernel
theorem dX9_about_76 : decode cX9_about 76 = .ok (.aload_n 0, 1) := by decide +kernel
theorem dX9_about_77 : decode cX9_about 77 = .ok (.getfield 19, 3) := by decide +kernel
theorem dX9_about_80 : decode cX9_about 80 = .ok (.getfield 93, 3) := by decide +kernel
theorem dX9_about_83 : decode cX9_about 83 = .ok (.ireturn, 1) := by decide +kernel
theorem dX9_about_84 : decode cX9_about 84 = .ok (.aload_n 0, 1) := by decide +kernel
theorem dX9_about_85 : decode cX9_about 85 = .ok (.getfield 29, 3) := by decide +kernel
theorem dX9_about_88 : decode cX9_about 88 = .ok (.getfield 96, 3) := by decide +kernel
theorem dX9_about_91 : decode cX9_about 91 = .ok (.getfield 100, 3) := by decide +kernel
theorem dX9_about_94 : decode cX9_about 94 = .ok (.ireturn, 1) := by decide +kernel
theorem dX9_about_95 : decode cX9_about 95 = .ok (.aload_n 0, 1) := by decide +kernel
theorem dX9_about_96 : decode cX9_about 96 = .ok (.getfield 29, 3) := by decide +kernel
theorem dX9_about_99 : decode cX9_about 99 = .ok (.getfield 96, 3) := by decide +kernel
theorem dX9_about_102 : decode cX9_about 102 = .ok (.getfield 105, 3) := by decide +kernel
theorem dX9_about_105 : decode cX9_about 105 = .ok (.ireturn, 1) := by decide +kernel
theorem dX9_about_106 : decode cX9_about 106 = .ok (.aload_n 0, 1) := by decide +kernel
theorem dX9_about_107 : decode cX9_about 107 = .ok (.getfield 29, 3) := by decide +kernel
theorem dX9_about_110 : decode cX9_about 110 = .ok (.getfield 96, 3) := by decide +kernel
theorem dX9_about_113 : decode cX9_about 113 = .ok (.getfield 108, 3) := by decide +kernel
theorem dX9_about_116 : decode cX9_about 116 = .ok (.ifCond .eq 7, 3) := by decide +kernel
theorem dX9_about_119 : decode cX9_about 119 = .ok (.iconst 1, 1) := by decide +kernel
theorem dX9_about_120 : decode cX9_about 120 = .ok (.goto 4, 3) := by decide +kernel
theorem dX9_about_123 : decode cX9_about 123 = .ok (.iconst 0, 1) := by decide +kernel
theorem dX9_about_124 : decode cX9_about 124 = .ok (.ireturn, 1) := by decide +kernel
theorem dX9_about_125 : decode cX9_about 125 = .ok (.aload_n 0, 1) := by decide +kernel
theorem dX9_about_126 : decode cX9_about 126 = .ok (.getfield 29, 3) := by decide +kernel
theorem dX9_about_129 : decode cX9_about 129 = .ok (.getfield 96, 3) := by decide +kernel
theorem dX9_about_132 : decode cX9_about 132 = .ok (.getfield 112, 3) := by decide +kernel
theorem dX9_about_135 : decode cX9_about 135 = .ok (.ireturn, 1) := by decide +kernel
theorem dX9_about_136 : decode cX9_about 136 = .ok (.aload_n 0, 1) := by decide +kernel
theorem dX9_about_137 : decode cX9_about 137 = .ok (.getfield 29, 3) := by decide +kernel
theorem dX9_about_140 : decode cX9_about 140 = .ok (.getfield 96, 3) := by decide +kernel
theorem dX9_about_143 : decode cX9_about 143 = .ok (.getfield 115, 3) := by decide +kernel
theorem dX9_about_146 : decode cX9_about 146 = .ok (.ireturn, 1) := by decide +kernel
theorem dX9_about_147 : decode cX9_about 147 = .ok (.aload_n 0, 1) := by decide +kernel
theorem dX9_about_148 : decode cX9_about 148 = .ok (.getfield 29, 3) := by decide +kernel
theorem dX9_about_151 : decode cX9_about 151 = .ok (.getfield 118, 3) := by decide +kernel
theorem dX9_about_154 : decode cX9_about 154 = .ok (.invokevirtual 122, 3) := by decide +kernel
theorem dX9_about_157 : decode cX9_about 157 = .ok (.ireturn, 1) := by decide +kernel
theorem dX9_about_158 : decode cX9_about 158 = .ok (.aload_n 0, 1) := by decide +kernel
theorem dX9_about_159 : decode cX9_about 159 = .ok (.getfield 29, 3) := by decide +kernel
theorem dX9_about_162 : decode cX9_about 162 = .ok (.getfield 128, 3) := by decide +kernel
theorem dX9_about_165 : decode cX9_about 165 = .ok (.ireturn, 1) := by decide +kernel
theorem dX9_about_166 : decode cX9_about 166 = .ok (.aload_n 0, 1) := by decide +kernel
theorem dX9_about_167 : decode cX9_about 167 = .ok (.getfield 29, 3) := by decide +kernel
theorem dX9_about_170 : decode cX9_about 170 = .ok (.getfield 131, 3) := by decide +kernel
theorem dX9_about_173 : decode cX9_about 173 = .ok (.ireturn, 1) := by decide +kernel
theorem dX9_about_174 : decode cX9_about 174 = .ok (.aload_n 0, 1) := by decide +kernel
theorem dX9_about_175 : decode cX9_about 175 = .ok (.getfield 29, 3) := by decide +kernel
theorem dX9_about_178 : decode cX9_about 178 = .ok (.getfield 134, 3) := by decide +kernel
theorem dX9_about_181 : decode cX9_about 181 = .ok (.ireturn, 1) := by decide +kernel
theorem dX9_about_182 : decode cX9_about 182 = .ok (.aload_n 0, 1) := by decide +kernel
theorem dX9_about_183 : decode cX9_about 183 = .ok (.getfield 29, 3) := by decide +kernel
theorem dX9_about_186 : decode cX9_about 186 = .ok (.getfield 137, 3) := by decide +kernel
theorem dX9_about_189 : decode cX9_about 189 = .ok (.ireturn, 1) := by decide +kernel
theorem dX9_about_190 : decode cX9_about 190 = .ok (.aload_n 0, 1) := by decide +kernel
theorem dX9_about_191 : decode cX9_about 191 = .ok (.getfield 19, 3) := by decide +kernel
theorem dX9_about_194 : decode cX9_about 194 = .ok (.invokevirtual 140, 3) := by decide +kernel
theorem dX9_about_197 : decode cX9_about 197 = .ok (.ireturn, 1) := by decide +kernel
theorem dX9_about_198 : decode cX9_about 198 = .ok (.aload_n 0, 1) := by decide +kernel
theorem dX9_about_199 : decode cX9_about 199 = .ok (.getfield 39, 3) := by decide +kernel
theorem dX9_about_202 : decode cX9_about 202 = .ok (.getfield 143, 3) := by decide +kernel
theorem dX9_about_205 : decode cX9_about 205 = .ok (.ireturn, 1) := by decide +kernel
theorem dX9_about_206 : decode cX9_about 206 = .ok (.aload_n 0, 1) := by decide +kernel
theorem dX9_about_207 : decode cX9_about 207 = .ok (.getfield 54, 3) := by decide +kernel
theorem dX9_about_210 : decode cX9_about 210 = .ok (.getfield 146, 3) := by decide +kernel
theorem dX9_about_213 : decode cX9_about 213 = .ok (.ireturn, 1) := by decide +kernel
theorem dX9_about_214 : decode cX9_about 214 = .ok (.aload_n 0, 1) := by decide +kernel
theorem dX9_about_215 : decode cX9_about 215 = .ok (.getfield 10, 3) := by decide +kernel
theorem dX9_about_218 : decode cX9_about 218 = .ok (.getfield 72, 3) := by decide +kernel
theorem dX9_about_221 : decode cX9_about 221 = .ok (.ireturn, 1) := by decide +kernel
theorem dX9_about_222 : decode cX9_about 222 = .ok (.bipush (-2), 2) := by decide +kernel
theorem dX9_about_224 : decode cX9_about 224 = .ok (.ireturn, 1) := by decide +kernel
theorem dX9_register_0 : decode cX9_register 0 = .ok (.iload_n 1, 1) := by decide +kernel
theorem dX9_register_1 : decode cX9_register 1 = .ok (.invokestatic 149, 3) := by decide +kernel
theorem dX9_register_4 : decode cX9_register 4 = .ok (.ifCond .eq 18, 3) := by decide +kernel
theorem dX9_register_7 : decode cX9_register 7 = .ok (.aload_n 0, 1) := by decide +kernel
theorem dX9_register_8 : decode cX9_register 8 = .ok (.getfield 29, 3) := by decide +kernel
theorem dX9_register_11 : decode cX9_register 11 = .ok (.getfield 96, 3) := by decide +kernel
theorem dX9_register_14 : decode cX9_register 14 = .ok (.getfield 153, 3) := by decide +kernel
theorem dX9_register_17 : decode cX9_register 17 = .ok (.iload_n 1, 1) := by decide +kernel
theorem dX9_register_18 : decode cX9_register 18 = .ok (.iaload, 1) := by decide +kernel
theorem dX9_register_19 : decode cX9_register 19 = .ok (.goto 4, 3) := by decide +kernel
theorem dX9_register_22 : decode cX9_register 22 = .ok (.iconst (-1), 1) := by decide +kernel
theorem dX9_register_23 : decode cX9_register 23 = .ok (.ireturn, 1) := by decide +kernel
theorem dX9_cell_0 : decode cX9_cell 0 = .ok (.iload_n 1, 1) := by decide +kernel
theorem dX9_cell_1 : decode cX9_cell 1 = .ok (.invokestatic 156, 3) := by decide +kernel
theorem dX9_cell_4 : decode cX9_cell 4 = .ok (.ifCond .eq 18, 3) := by decide +kernel
theorem dX9_cell_7 : decode cX9_cell 7 = .ok (.aload_n 0, 1) := by decide +kernel
theorem dX9_cell_8 : decode cX9_cell 8 = .ok (.getfield 29, 3) := by decide +kernel
theorem dX9_cell_11 : decode cX9_cell 11 = .ok (.getfield 96, 3) := by decide +kernel
theorem dX9_cell_14 : decode cX9_cell 14 = .ok (.getfield 159, 3) := by decide +kernel
theorem dX9_cell_17 : decode cX9_cell 17 = .ok (.iload_n 1, 1) := by decide +kernel
theorem dX9_cell_18 : decode cX9_cell 18 = .ok (.iaload, 1) := by decide +kernel
theorem dX9_cell_19 : decode cX9_cell 19 = .ok (.goto 4, 3) := by decide +kernel
theorem dX9_cell_22 : decode cX9_cell 22 = .ok (.iconst (-1), 1) := by decide +kernel
theorem dX9_cell_23 : decode cX9_cell 23 = .ok (.ireturn, 1) := by decide +kernel
theorem dX9_stack_0 : decode cX9_stack 0 = .ok (.iload_n 1, 1) := by decide +kernel
theorem dX9_stack_1 : decode cX9_stack 1 = .ok (.ifCond .lt 32, 3) := by decide +kernel
theorem dX9_stack_4 : decode cX9_stack 4 = .ok (.iload_n 1, 1) := by decide +kernel
theorem dX9_stack_5 : decode cX9_stack 5 = .ok (.aload_n 0, 1) := by decide +kernel
theorem dX9_stack_6 : decode cX9_stack 6 = .ok (.getfield 29, 3) := by decide +kernel
theorem dX9_stack_9 : decode cX9_stack 9 = .ok (.getfield 96, 3) := by decide +kernel
theorem dX9_stack_12 : decode cX9_stack 12 = .ok (.getfield 105, 3) := by decide +kernel
theorem dX9_stack_15 : decode cX9_stack 15 = .ok (.if_icmp .ge 18, 3) := by decide +kernel
theorem dX9_stack_18 : decode cX9_stack 18 = .ok (.aload_n 0, 1) := by decide +kernel
theorem dX9_stack_19 : decode cX9_stack 19 = .ok (.getfield 29, 3) := by decide +kernel
theorem dX9_stack_22 : decode cX9_stack 22 = .ok (.getfield 96, 3) := by decide +kernel
theorem dX9_stack_25 : decode cX9_stack 25 = .ok (.getfield 162, 3) := by decide +kernel
theorem dX9_stack_28 : decode cX9_stack 28 = .ok (.iload_n 1, 1) := by decide +kernel
theorem dX9_stack_29 : decode cX9_stack 29 = .ok (.iaload, 1) := by decide +kernel
theorem dX9_stack_30 : decode cX9_stack 30 = .ok (.goto 5, 3) := by decide +kernel
theorem dX9_stack_33 : decode cX9_stack 33 = .ok (.bipush (-9), 2) := by decide +kernel
theorem dX9_stack_35 : decode cX9_stack 35 = .ok (.ireturn, 1) := by decide +kernel
theorem dX9_broken_0 : decode cX9_broken 0 = .ok (.aload_n 0, 1) := by decide +kernel
theorem dX9_broken_1 : decode cX9_broken 1 = .ok (.getfield 19, 3) := by decide +kernel
theorem dX9_broken_4 : decode cX9_broken 4 = .ok (.iload_n 1, 1) := by decide +kernel
theorem dX9_broken_5 : decode cX9_broken 5 = .ok (.invokevirtual 165, 3) := by decide +kernel
theorem dX9_broken_8 : decode cX9_broken 8 = .ok (.ifCond .ne 5, 3) := by decide +kernel
theorem dX9_broken_11 : decode cX9_broken 11 = .ok (.iconst (-1), 1) := by decide +kernel
theorem dX9_broken_12 : decode cX9_broken 12 = .ok (.ireturn, 1) := by decide +kernel
theorem dX9_broken_13 : decode cX9_broken 13 = .ok (.iload_n 2, 1) := by decide +kernel
theorem dX9_broken_14 : decode cX9_broken 14 = .ok (.ifCond .lt 9, 3) := by decide +kernel
theorem dX9_broken_17 : decode cX9_broken 17 = .ok (.iload_n 2, 1) := by decide +kernel
theorem dX9_broken_18 : decode cX9_broken 18 = .ok (.bipush 6, 2) := by decide +kernel
theorem dX9_broken_20 : decode cX9_broken 20 = .ok (.if_icmp .lt 6, 3) := by decide +kernel
theorem dX9_broken_23 : decode cX9_broken 23 = .ok (.bipush (-2), 2) := by decide +kernel
theorem dX9_broken_25 : decode cX9_broken 25 = .ok (.ireturn, 1) := by decide +kernel
theorem dX9_broken_26 : decode cX9_broken 26 = .ok (.aload_n 0, 1) := by decide +kernel
theorem dX9_broken_27 : decode cX9_broken 27 = .ok (.getfield 29, 3) := by decide +kernel
theorem dX9_broken_30 : decode cX9_broken 30 = .ok (.getfield 118, 3) := by decide +kernel
theorem dX9_broken_33 : decode cX9_broken 33 = .ok (.iload_n 1, 1) := by decide +kernel
theorem dX9_broken_34 : decode cX9_broken 34 = .ok (.iload_n 2, 1) := by decide +kernel
theorem dX9_broken_35 : decode cX9_broken 35 = .ok (.invokevirtual 168, 3) := by decide +kernel
theorem dX9_broken_38 : decode cX9_broken 38 = .ok (.ireturn, 1) := by decide +kernel
theorem dX9_copy_0 : decode cX9_copy 0 = .ok (.iload_n 1, 1) := by decide +kernel
theorem dX9_copy_1 : decode cX9_copy 1 = .ok (.ifCond .lt 26, 3) := by decide +kernel
theorem dX9_copy_4 : decode cX9_copy 4 = .ok (.iload_n 1, 1) := by decide +kernel
theorem dX9_copy_5 : decode cX9_copy 5 = .ok (.aload_n 0, 1) := by decide +kernel
theorem dX9_copy_6 : decode cX9_copy 6 = .ok (.getfield 29, 3) := by decide +kernel
theorem dX9_copy_9 : decode cX9_copy 9 = .ok (.getfield 131, 3) := by decide +kernel
theorem dX9_copy_12 : decode cX9_copy 12 = .ok (.if_icmp .ge 15, 3) := by decide +kernel
theorem dX9_copy_15 : decode cX9_copy 15 = .ok (.aload_n 0, 1) := by decide +kernel
theorem dX9_copy_16 : decode cX9_copy 16 = .ok (.getfield 29, 3) := by decide +kernel
theorem dX9_copy_19 : decode cX9_copy 19 = .ok (.getfield 172, 3) := by decide +kernel
theorem dX9_copy_22 : decode cX9_copy 22 = .ok (.iload_n 1, 1) := by decide +kernel
theorem dX9_copy_23 : decode cX9_copy 23 = .ok (.iaload, 1) := by decide +kernel
theorem dX9_copy_24 : decode cX9_copy 24 = .ok (.goto 5, 3) := by decide +kernel
theorem dX9_copy_27 : decode cX9_copy 27 = .ok (.bipush (-9), 2) := by decide +kernel
theorem dX9_copy_29 : decode cX9_copy 29 = .ok (.ireturn, 1) := by decide +kernel
theorem dX9_plan_0 : decode cX9_plan 0 = .ok (.iload_n 1, 1) := by decide +kernel
theorem dX9_plan_1 : decode cX9_plan 1 = .ok (.ifCond .lt 8, 3) := by decide +kernel
theorem dX9_plan_4 : decode cX9_plan 4 = .ok (.iload_n 1, 1) := by decide +kernel
theorem dX9_plan_5 : decode cX9_plan 5 = .ok (.iconst 3, 1) := by decide +kernel
theorem dX9_plan_6 : decode cX9_plan 6 = .ok (.if_icmp .le 6, 3) := by decide +kernel
theorem dX9_plan_9 : decode cX9_plan 9 = .ok (.bipush (-2), 2) := by decide +kernel
theorem dX9_plan_11 : decode cX9_plan 11 = .ok (.ireturn, 1) := by decide +kernel
theorem dX9_plan_12 : decode cX9_plan 12 = .ok (.aload_n 0, 1) := by decide +kernel
theorem dX9_plan_13 : decode cX9_plan 13 = .ok (.getfield 29, 3) := by decide +kernel
theorem dX9_plan_16 : decode cX9_plan 16 = .ok (.iload_n 1, 1) := by decide +kernel
theorem dX9_plan_17 : decode cX9_plan 17 = .ok (.invokevirtual 175, 3) := by decide +kernel
theorem dX9_plan_20 : decode cX9_plan 20 = .ok (.ifCond .ne 6, 3) := by decide +kernel
theorem dX9_plan_23 : decode cX9_plan 23 = .ok (.bipush (-3), 2) := by decide +kernel
theorem dX9_plan_25 : decode cX9_plan 25 = .ok (.ireturn, 1) := by decide +kernel
theorem dX9_plan_26 : decode cX9_plan 26 = .ok (.aload_n 0, 1) := by decide +kernel
theorem dX9_plan_27 : decode cX9_plan 27 = .ok (.getfield 39, 3) := by decide +kernel
theorem dX9_plan_30 : decode cX9_plan 30 = .ok (.aload_n 0, 1) := by decide +kernel
theorem dX9_plan_31 : decode cX9_plan 31 = .ok (.getfield 29, 3) := by decide +kernel
theorem dX9_plan_34 : decode cX9_plan 34 = .ok (.invokevirtual 178, 3) := by decide +kernel
theorem dX9_plan_37 : decode cX9_plan 37 = .ok (.aload_n 0, 1) := by decide +kernel
theorem dX9_plan_38 : decode cX9_plan 38 = .ok (.getfield 29, 3) := by decide +kernel
theorem dX9_plan_41 : decode cX9_plan 41 = .ok (.iload_n 1, 1) := by decide +kernel
theorem dX9_plan_42 : decode cX9_plan 42 = .ok (.aload_n 0, 1) := by decide +kernel
theorem dX9_plan_43 : decode cX9_plan 43 = .ok (.getfield 19, 3) := by decide +kernel
theorem dX9_plan_46 : decode cX9_plan 46 = .ok (.invokevirtual 182, 3) := by decide +kernel
theorem dX9_plan_49 : decode cX9_plan 49 = .ok (.ireturn, 1) := by decide +kernel
theorem dX9_set_0 : decode cX9_set 0 = .ok (.iload_n 1, 1) := by decide +kernel
theorem dX9_set_1 : decode cX9_set 1 = .ok (.tableswitch 108 0 2 #[27, 55, 83], 27) := by decide +kernel
theorem dX9_set_28 : decode cX9_set 28 = .ok (.iload_n 2, 1) := by decide +kernel
theorem dX9_set_29 : decode cX9_set 29 = .ok (.invokestatic 149, 3) := by decide +kernel
theorem dX9_set_32 : decode cX9_set 32 = .ok (.ifCond .eq 22, 3) := by decide +kernel
theorem dX9_set_35 : decode cX9_set 35 = .ok (.aload_n 0, 1) := by decide +kernel
theorem dX9_set_36 : decode cX9_set 36 = .ok (.aload_n 0, 1) := by decide +kernel
theorem dX9_set_37 : decode cX9_set 37 = .ok (.getfield 29, 3) := by decide +kernel
theorem dX9_set_40 : decode cX9_set 40 = .ok (.getfield 96, 3) := by decide +kernel
theorem dX9_set_43 : decode cX9_set 43 = .ok (.getfield 153, 3) := by decide +kernel
theorem dX9_set_46 : decode cX9_set 46 = .ok (.iload_n 2, 1) := by decide +kernel
theorem dX9_set_47 : decode cX9_set 47 = .ok (.iload_n 3, 1) := by decide +kernel
theorem dX9_set_48 : decode cX9_set 48 = .ok (.invokevirtual 186, 3) := by decide +kernel
theorem dX9_set_51 : decode cX9_set 51 = .ok (.goto 4, 3) := by decide +kernel
theorem dX9_set_54 : decode cX9_set 54 = .ok (.iconst (-1), 1) := by decide +kernel
theorem dX9_set_55 : decode cX9_set 55 = .ok (.ireturn, 1) := by decide +kernel
theorem dX9_set_56 : decode cX9_set 56 = .ok (.iload_n 2, 1) := by decide +kernel
theorem dX9_set_57 : decode cX9_set 57 = .ok (.invokestatic 156, 3) := by decide +kernel
theorem dX9_set_60 : decode cX9_set 60 = .ok (.ifCond .eq 22, 3) := by decide +kernel
theorem dX9_set_63 : decode cX9_set 63 = .ok (.aload_n 0, 1) := by decide +kernel
theorem dX9_set_64 : decode cX9_set 64 = .ok (.aload_n 0, 1) := by decide +kernel
theorem dX9_set_65 : decode cX9_set 65 = .ok (.getfield 29, 3) := by decide +kernel
theorem dX9_set_68 : decode cX9_set 68 = .ok (.getfield 96, 3) := by decide +kernel
theorem dX9_set_71 : decode cX9_set 71 = .ok (.getfield 159, 3) := by decide +kernel
theorem dX9_set_74 : decode cX9_set 74 = .ok (.iload_n 2, 1) := by decide +kernel
theorem dX9_set_75 : decode cX9_set 75 = .ok (.iload_n 3, 1) := by decide +kernel
theorem dX9_set_76 : decode cX9_set 76 = .ok (.invokevirtual 186, 3) := by decide +kernel
theorem dX9_set_79 : decode cX9_set 79 = .ok (.goto 4, 3) := by decide +kernel
theorem dX9_set_82 : decode cX9_set 82 = .ok (.iconst (-1), 1) := by decide +kernel
theorem dX9_set_83 : decode cX9_set 83 = .ok (.ireturn, 1) := by decide +kernel
theorem dX9_set_84 : decode cX9_set 84 = .ok (.iload_n 2, 1) := by decide +kernel
theorem dX9_set_85 : decode cX9_set 85 = .ok (.ifCond .ne 22, 3) := by decide +kernel
theorem dX9_set_88 : decode cX9_set 88 = .ok (.aload_n 0, 1) := by decide +kernel
theorem dX9_set_89 : decode cX9_set 89 = .ok (.getfield 19, 3) := by decide +kernel
theorem dX9_set_92 : decode cX9_set 92 = .ok (.iload_n 3, 1) := by decide +kernel
theorem dX9_set_93 : decode cX9_set 93 = .ok (.invokevirtual 165, 3) := by decide +kernel
theorem dX9_set_96 : decode cX9_set 96 = .ok (.ifCond .eq 11, 3) := by decide +kernel
theorem dX9_set_99 : decode cX9_set 99 = .ok (.aload_n 0, 1) := by decide +kernel
theorem dX9_set_100 : decode cX9_set 100 = .ok (.iload_n 3, 1) := by decide +kernel
theorem dX9_set_101 : decode cX9_set 101 = .ok (.invokevirtual 190, 3) := by decide +kernel
theorem dX9_set_104 : decode cX9_set 104 = .ok (.goto 4, 3) := by decide +kernel
theorem dX9_set_107 : decode cX9_set 107 = .ok (.iconst (-1), 1) := by decide +kernel
theorem dX9_set_108 : decode cX9_set 108 = .ok (.ireturn, 1) := by decide +kernel
theorem dX9_set_109 : decode cX9_set 109 = .ok (.bipush (-2), 2) := by decide +kernel
theorem dX9_set_111 : decode cX9_set 111 = .ok (.ireturn, 1) := by decide +kernel
theorem dX9_exchange_0 : decode cX9_exchange 0 = .ok (.aload_n 0, 1) := by decide +kernel
theorem dX9_exchange_1 : decode cX9_exchange 1 = .ok (.getfield 39, 3) := by decide +kernel
theorem dX9_exchange_4 : decode cX9_exchange 4 = .ok (.aload_n 0, 1) := by decide +kernel
theorem dX9_exchange_5 : decode cX9_exchange 5 = .ok (.getfield 29, 3) := by decide +kernel
theorem dX9_exchange_8 : decode cX9_exchange 8 = .ok (.invokevirtual 178, 3) := by decide +kernel
theorem dX9_exchange_11 : decode cX9_exchange 11 = .ok (.aload_n 1, 1) := by decide +kernel
theorem dX9_exchange_12 : decode cX9_exchange 12 = .ok (.iload_n 2, 1) := by decide +kernel
theorem dX9_exchange_13 : decode cX9_exchange 13 = .ok (.iaload, 1) := by decide +kernel
theorem dX9_exchange_14 : decode cX9_exchange 14 = .ok (.istore 4, 2) := by decide +kernel
theorem dX9_exchange_16 : decode cX9_exchange 16 = .ok (.aload_n 1, 1) := by decide +kernel
theorem dX9_exchange_17 : decode cX9_exchange 17 = .ok (.iload_n 2, 1) := by decide +kernel
theorem dX9_exchange_18 : decode cX9_exchange 18 = .ok (.iload_n 3, 1) := by decide +kernel
theorem dX9_exchange_19 : decode cX9_exchange 19 = .ok (.iastore, 1) := by decide +kernel
theorem dX9_exchange_20 : decode cX9_exchange 20 = .ok (.iload 4, 2) := by decide +kernel
theorem dX9_exchange_22 : decode cX9_exchange 22 = .ok (.ireturn, 1) := by decide +kernel
theorem dX9_moveCounter_0 : decode cX9_moveCounter 0 = .ok (.aload_n 0, 1) := by decide +kernel
theorem dX9_moveCounter_1 : decode cX9_moveCounter 1 = .ok (.getfield 39, 3) := by decide +kernel
theorem dX9_moveCounter_4 : decode cX9_moveCounter 4 = .ok (.aload_n 0, 1) := by decide +kernel
theorem dX9_moveCounter_5 : decode cX9_moveCounter 5 = .ok (.getfield 29, 3) := by decide +kernel
theorem dX9_moveCounter_8 : decode cX9_moveCounter 8 = .ok (.invokevirtual 178, 3) := by decide +kernel
theorem dX9_moveCounter_11 : decode cX9_moveCounter 11 = .ok (.aload_n 0, 1) := by decide +kernel
theorem dX9_moveCounter_12 : decode cX9_moveCounter 12 = .ok (.getfield 29, 3) := by decide +kernel
theorem dX9_moveCounter_15 : decode cX9_moveCounter 15 = .ok (.getfield 96, 3) := by decide +kernel
theorem dX9_moveCounter_18 : decode cX9_moveCounter 18 = .ok (.getfield 100, 3) := by decide +kernel
theorem dX9_moveCounter_21 : decode cX9_moveCounter 21 = .ok (.istore_n 2, 1) := by decide +kernel
theorem dX9_moveCounter_22 : decode cX9_moveCounter 22 = .ok (.aload_n 0, 1) := by decide +kernel
theorem dX9_moveCounter_23 : decode cX9_moveCounter 23 = .ok (.getfield 29, 3) := by decide +kernel
theorem dX9_moveCounter_26 : decode cX9_moveCounter 26 = .ok (.getfield 96, 3) := by decide +kernel
theorem dX9_moveCounter_29 : decode cX9_moveCounter 29 = .ok (.iload_n 1, 1) := by decide +kernel
theorem dX9_moveCounter_30 : decode cX9_moveCounter 30 = .ok (.putfield 100, 3) := by decide +kernel
theorem dX9_moveCounter_33 : decode cX9_moveCounter 33 = .ok (.aload_n 0, 1) := by decide +kernel
theorem dX9_moveCounter_34 : decode cX9_moveCounter 34 = .ok (.getfield 29, 3) := by decide +kernel
theorem dX9_moveCounter_37 : decode cX9_moveCounter 37 = .ok (.getfield 96, 3) := by decide +kernel
theorem dX9_moveCounter_40 : decode cX9_moveCounter 40 = .ok (.iconst 0, 1) := by decide +kernel
theorem dX9_moveCounter_41 : decode cX9_moveCounter 41 = .ok (.putfield 108, 3) := by decide +kernel
theorem dX9_moveCounter_44 : decode cX9_moveCounter 44 = .ok (.iload_n 2, 1) := by decide +kernel
theorem dX9_moveCounter_45 : decode cX9_moveCounter 45 = .ok (.ireturn, 1) := by decide +kernel
theorem dX9_smash_0 : decode cX9_smash 0 = .ok (.aload_n 0, 1) := by decide +kernel
theorem dX9_smash_1 : decode cX9_smash 1 = .ok (.getfield 19, 3) := by decide +kernel
theorem dX9_smash_4 : decode cX9_smash 4 = .ok (.iload_n 1, 1) := by decide +kernel
theorem dX9_smash_5 : decode cX9_smash 5 = .ok (.invokevirtual 165, 3) := by decide +kernel
theorem dX9_smash_8 : decode cX9_smash 8 = .ok (.ifCond .ne 5, 3) := by decide +kernel
theorem dX9_smash_11 : decode cX9_smash 11 = .ok (.iconst (-1), 1) := by decide +kernel
theorem dX9_smash_12 : decode cX9_smash 12 = .ok (.ireturn, 1) := by decide +kernel
theorem dX9_smash_13 : decode cX9_smash 13 = .ok (.iload_n 2, 1) := by decide +kernel
theorem dX9_smash_14 : decode cX9_smash 14 = .ok (.bipush (-9), 2) := by decide +kernel
theorem dX9_smash_16 : decode cX9_smash 16 = .ok (.if_icmp .eq 31, 3) := by decide +kernel
theorem dX9_smash_19 : decode cX9_smash 19 = .ok (.iload_n 2, 1) := by decide +kernel
theorem dX9_smash_20 : decode cX9_smash 20 = .ok (.invokestatic 149, 3) := by decide +kernel
theorem dX9_smash_23 : decode cX9_smash 23 = .ok (.ifCond .eq 28, 3) := by decide +kernel
theorem dX9_smash_26 : decode cX9_smash 26 = .ok (.iload_n 3, 1) := by decide +kernel
theorem dX9_smash_27 : decode cX9_smash 27 = .ok (.ifCond .lt 24, 3) := by decide +kernel
theorem dX9_smash_30 : decode cX9_smash 30 = .ok (.iload_n 3, 1) := by decide +kernel
theorem dX9_smash_31 : decode cX9_smash 31 = .ok (.iconst 2, 1) := by decide +kernel
theorem dX9_smash_32 : decode cX9_smash 32 = .ok (.if_icmp .gt 19, 3) := by decide +kernel
theorem dX9_smash_35 : decode cX9_smash 35 = .ok (.iload 4, 2) := by decide +kernel
theorem dX9_smash_37 : decode cX9_smash 37 = .ok (.ifCond .lt 14, 3) := by decide +kernel
theorem dX9_smash_40 : decode cX9_smash 40 = .ok (.iload 4, 2) := by decide +kernel
theorem dX9_smash_42 : decode cX9_smash 42 = .ok (.bipush 9, 2) := by decide +kernel
theorem dX9_smash_44 : decode cX9_smash 44 = .ok (.if_icmp .gt 7, 3) := by decide +kernel
theorem dX9_smash_47 : decode cX9_smash 47 = .ok (.iconst 1, 1) := by decide +kernel
theorem dX9_smash_48 : decode cX9_smash 48 = .ok (.goto 4, 3) := by decide +kernel
theorem dX9_smash_51 : decode cX9_smash 51 = .ok (.iconst 0, 1) := by decide +kernel
theorem dX9_smash_52 : decode cX9_smash 52 = .ok (.istore 6, 2) := by decide +kernel
theorem dX9_smash_54 : decode cX9_smash 54 = .ok (.iload 6, 2) := by decide +kernel
theorem dX9_smash_56 : decode cX9_smash 56 = .ok (.ifCond .eq 15, 3) := by decide +kernel
theorem dX9_smash_59 : decode cX9_smash 59 = .ok (.iload 5, 2) := by decide +kernel
theorem dX9_smash_61 : decode cX9_smash 61 = .ok (.ifCond .lt 10, 3) := by decide +kernel
theorem dX9_smash_64 : decode cX9_smash 64 = .ok (.iload 5, 2) := by decide +kernel
theorem dX9_smash_66 : decode cX9_smash 66 = .ok (.bipush 9, 2) := by decide +kernel
theorem dX9_smash_68 : decode cX9_smash 68 = .ok (.if_icmp .le 6, 3) := by decide +kernel
theorem dX9_smash_71 : decode cX9_smash 71 = .ok (.bipush (-2), 2) := by decide +kernel
theorem dX9_smash_73 : decode cX9_smash 73 = .ok (.ireturn, 1) := by decide +kernel
theorem dX9_smash_74 : decode cX9_smash 74 = .ok (.aload_n 0, 1) := by decide +kernel
theorem dX9_smash_75 : decode cX9_smash 75 = .ok (.getfield 29, 3) := by decide +kernel
theorem dX9_smash_78 : decode cX9_smash 78 = .ok (.getfield 118, 3) := by decide +kernel
theorem dX9_smash_81 : decode cX9_smash 81 = .ok (.iload_n 1, 1) := by decide +kernel
theorem dX9_smash_82 : decode cX9_smash 82 = .ok (.invokevirtual 194, 3) := by decide +kernel
theorem dX9_smash_85 : decode cX9_smash 85 = .ok (.ifCond .eq 6, 3) := by decide +kernel
theorem dX9_smash_88 : decode cX9_smash 88 = .ok (.bipush (-4), 2) := by decide +kernel
theorem dX9_smash_90 : decode cX9_smash 90 = .ok (.ireturn, 1) := by decide +kernel
theorem dX9_smash_91 : decode cX9_smash 91 = .ok (.aload_n 0, 1) := by decide +kernel
theorem dX9_smash_92 : decode cX9_smash 92 = .ok (.getfield 39, 3) := by decide +kernel
theorem dX9_smash_95 : decode cX9_smash 95 = .ok (.aload_n 0, 1) := by decide +kernel
theorem dX9_smash_96 : decode cX9_smash 96 = .ok (.getfield 29, 3) := by decide +kernel
theorem dX9_smash_99 : decode cX9_smash 99 = .ok (.invokevirtual 178, 3) := by decide +kernel
theorem dX9_smash_102 : decode cX9_smash 102 = .ok (.aload_n 0, 1) := by decide +kernel
theorem dX9_smash_103 : decode cX9_smash 103 = .ok (.getfield 29, 3) := by decide +kernel
theorem dX9_smash_106 : decode cX9_smash 106 = .ok (.getfield 118, 3) := by decide +kernel
theorem dX9_smash_109 : decode cX9_smash 109 = .ok (.iload_n 1, 1) := by decide +kernel
theorem dX9_smash_110 : decode cX9_smash 110 = .ok (.iload_n 2, 1) := by decide +kernel
theorem dX9_smash_111 : decode cX9_smash 111 = .ok (.iload_n 3, 1) := by decide +kernel
theorem dX9_smash_112 : decode cX9_smash 112 = .ok (.iload 4, 2) := by decide +kernel
theorem dX9_smash_114 : decode cX9_smash 114 = .ok (.iload 5, 2) := by decide +kernel
theorem dX9_smash_116 : decode cX9_smash 116 = .ok (.invokevirtual 197, 3) := by decide +kernel
theorem dX9_smash_119 : decode cX9_smash 119 = .ok (.aload_n 0, 1) := by decide +kernel
theorem dX9_smash_120 : decode cX9_smash 120 = .ok (.getfield 29, 3) := by decide +kernel
theorem dX9_smash_123 : decode cX9_smash 123 = .ok (.getfield 118, 3) := by decide +kernel
theorem dX9_smash_126 : decode cX9_smash 126 = .ok (.iload_n 1, 1) := by decide +kernel
theorem dX9_smash_127 : decode cX9_smash 127 = .ok (.iconst 0, 1) := by decide +kernel
theorem dX9_smash_128 : decode cX9_smash 128 = .ok (.invokevirtual 168, 3) := by decide +kernel
theorem dX9_smash_131 : decode cX9_smash 131 = .ok (.ireturn, 1) := by decide +kernel
theorem dX9_lift_0 : decode cX9_lift 0 = .ok (.aload_n 0, 1) := by decide +kernel
theorem dX9_lift_1 : decode cX9_lift 1 = .ok (.getfield 19, 3) := by decide +kernel
theorem dX9_lift_4 : decode cX9_lift 4 = .ok (.iload_n 1, 1) := by decide +kernel
theorem dX9_lift_5 : decode cX9_lift 5 = .ok (.invokevirtual 165, 3) := by decide +kernel
theorem dX9_lift_8 : decode cX9_lift 8 = .ok (.ifCond .ne 5, 3) := by decide +kernel
theorem dX9_lift_11 : decode cX9_lift 11 = .ok (.iconst (-1), 1) := by decide +kernel
theorem dX9_lift_12 : decode cX9_lift 12 = .ok (.ireturn, 1) := by decide +kernel
theorem dX9_lift_13 : decode cX9_lift 13 = .ok (.aload_n 0, 1) := by decide +kernel
theorem dX9_lift_14 : decode cX9_lift 14 = .ok (.getfield 29, 3) := by decide +kernel
theorem dX9_lift_17 : decode cX9_lift 17 = .ok (.getfield 118, 3) := by decide +kernel
theorem dX9_lift_20 : decode cX9_lift 20 = .ok (.iload_n 1, 1) := by decide +kernel
theorem dX9_lift_21 : decode cX9_lift 21 = .ok (.invokevirtual 201, 3) := by decide +kernel
theorem dX9_lift_24 : decode cX9_lift 24 = .ok (.ifCond .ne 6, 3) := by decide +kernel
theorem dX9_lift_27 : decode cX9_lift 27 = .ok (.bipush (-3), 2) := by decide +kernel
theorem dX9_lift_29 : decode cX9_lift 29 = .ok (.ireturn, 1) := by decide +kernel
theorem dX9_lift_30 : decode cX9_lift 30 = .ok (.aload_n 0, 1) := by decide +kernel
theorem dX9_lift_31 : decode cX9_lift 31 = .ok (.getfield 39, 3) := by decide +kernel
theorem dX9_lift_34 : decode cX9_lift 34 = .ok (.aload_n 0, 1) := by decide +kernel
theorem dX9_lift_35 : decode cX9_lift 35 = .ok (.getfield 29, 3) := by decide +kernel
theorem dX9_lift_38 : decode cX9_lift 38 = .ok (.invokevirtual 178, 3) := by decide +kernel
theorem dX9_lift_41 : decode cX9_lift 41 = .ok (.aload_n 0, 1) := by decide +kernel
theorem dX9_lift_42 : decode cX9_lift 42 = .ok (.getfield 29, 3) := by decide +kernel
theorem dX9_lift_45 : decode cX9_lift 45 = .ok (.getfield 118, 3) := by decide +kernel
theorem dX9_lift_48 : decode cX9_lift 48 = .ok (.iload_n 1, 1) := by decide +kernel
theorem dX9_lift_49 : decode cX9_lift 49 = .ok (.invokevirtual 204, 3) := by decide +kernel
theorem dX9_lift_52 : decode cX9_lift 52 = .ok (.aload_n 0, 1) := by decide +kernel
theorem dX9_lift_53 : decode cX9_lift 53 = .ok (.getfield 29, 3) := by decide +kernel
theorem dX9_lift_56 : decode cX9_lift 56 = .ok (.getfield 118, 3) := by decide +kernel
theorem dX9_lift_59 : decode cX9_lift 59 = .ok (.iload_n 1, 1) := by decide +kernel
theorem dX9_lift_60 : decode cX9_lift 60 = .ok (.iconst 0, 1) := by decide +kernel
theorem dX9_lift_61 : decode cX9_lift 61 = .ok (.invokevirtual 168, 3) := by decide +kernel
theorem dX9_lift_64 : decode cX9_lift 64 = .ok (.ireturn, 1) := by decide +kernel
theorem dX9_watch_0 : decode cX9_watch 0 = .ok (.iload_n 1, 1) := by decide +kernel
theorem dX9_watch_1 : decode cX9_watch 1 = .ok (.invokestatic 156, 3) := by decide +kernel
theorem dX9_watch_4 : decode cX9_watch 4 = .ok (.ifCond .ne 5, 3) := by decide +kernel
theorem dX9_watch_7 : decode cX9_watch 7 = .ok (.iconst (-1), 1) := by decide +kernel
theorem dX9_watch_8 : decode cX9_watch 8 = .ok (.ireturn, 1) := by decide +kernel
theorem dX9_watch_9 : decode cX9_watch 9 = .ok (.aload_n 0, 1) := by decide +kernel
theorem dX9_watch_10 : decode cX9_watch 10 = .ok (.getfield 39, 3) := by decide +kernel
theorem dX9_watch_13 : decode cX9_watch 13 = .ok (.aload_n 0, 1) := by decide +kernel
theorem dX9_watch_14 : decode cX9_watch 14 = .ok (.getfield 29, 3) := by decide +kernel
theorem dX9_watch_17 : decode cX9_watch 17 = .ok (.invokevirtual 178, 3) := by decide +kernel
theorem dX9_watch_20 : decode cX9_watch 20 = .ok (.aload_n 0, 1) := by decide +kernel
theorem dX9_watch_21 : decode cX9_watch 21 = .ok (.getfield 29, 3) := by decide +kernel
theorem dX9_watch_24 : decode cX9_watch 24 = .ok (.iload_n 1, 1) := by decide +kernel
theorem dX9_watch_25 : decode cX9_watch 25 = .ok (.invokevirtual 208, 3) := by decide +kernel
theorem dX9_watch_28 : decode cX9_watch 28 = .ok (.pop, 1) := by decide +kernel
theorem dX9_watch_29 : decode cX9_watch 29 = .ok (.aload_n 0, 1) := by decide +kernel
theorem dX9_watch_30 : decode cX9_watch 30 = .ok (.getfield 29, 3) := by decide +kernel
theorem dX9_watch_33 : decode cX9_watch 33 = .ok (.iload_n 1, 1) := by decide +kernel
theorem dX9_watch_34 : decode cX9_watch 34 = .ok (.invokevirtual 211, 3) := by decide +kernel
theorem dX9_watch_37 : decode cX9_watch 37 = .ok (.ifCond .eq 7, 3) := by decide +kernel
theorem dX9_watch_40 : decode cX9_watch 40 = .ok (.iconst 1, 1) := by decide +kernel
theorem dX9_watch_41 : decode cX9_watch 41 = .ok (.goto 4, 3) := by decide +kernel
theorem dX9_watch_44 : decode cX9_watch 44 = .ok (.iconst 0, 1) := by decide +kernel
theorem dX9_watch_45 : decode cX9_watch 45 = .ok (.ireturn, 1) := by decide +kernel
theorem dX9_undo_0 : decode cX9_undo 0 = .ok (.aload_n 0, 1) := by decide +kernel
theorem dX9_undo_1 : decode cX9_undo 1 = .ok (.getfield 39, 3) := by decide +kernel
theorem dX9_undo_4 : decode cX9_undo 4 = .ok (.getfield 143, 3) := by decide +kernel
theorem dX9_undo_7 : decode cX9_undo 7 = .ok (.ifCond .ne 6, 3) := by decide +kernel
theorem dX9_undo_10 : decode cX9_undo 10 = .ok (.bipush (-3), 2) := by decide +kernel
theorem dX9_undo_12 : decode cX9_undo 12 = .ok (.ireturn, 1) := by decide +kernel
theorem dX9_undo_13 : decode cX9_undo 13 = .ok (.aload_n 0, 1) := by decide +kernel
theorem dX9_undo_14 : decode cX9_undo 14 = .ok (.getfield 39, 3) := by decide +kernel
theorem dX9_undo_17 : decode cX9_undo 17 = .ok (.aload_n 0, 1) := by decide +kernel
theorem dX9_undo_18 : decode cX9_undo 18 = .ok (.getfield 29, 3) := by decide +kernel
theorem dX9_undo_21 : decode cX9_undo 21 = .ok (.invokevirtual 214, 3) := by decide +kernel
theorem dX9_undo_24 : decode cX9_undo 24 = .ok (.aload_n 0, 1) := by decide +kernel
theorem dX9_undo_25 : decode cX9_undo 25 = .ok (.getfield 39, 3) := by decide +kernel
theorem dX9_undo_28 : decode cX9_undo 28 = .ok (.getfield 143, 3) := by decide +kernel
theorem dX9_undo_31 : decode cX9_undo 31 = .ok (.ireturn, 1) := by decide +kernel
theorem dX9_aside_0 : decode cX9_aside 0 = .ok (.aload_n 0, 1) := by decide +kernel
theorem dX9_aside_1 : decode cX9_aside 1 = .ok (.getfield 19, 3) := by decide +kernel
theorem dX9_aside_4 : decode cX9_aside 4 = .ok (.iload_n 1, 1) := by decide +kernel
theorem dX9_aside_5 : decode cX9_aside 5 = .ok (.invokevirtual 165, 3) := by decide +kernel
theorem dX9_aside_8 : decode cX9_aside 8 = .ok (.ifCond .ne 5, 3) := by decide +kernel
theorem dX9_aside_11 : decode cX9_aside 11 = .ok (.iconst (-1), 1) := by decide +kernel
theorem dX9_aside_12 : decode cX9_aside 12 = .ok (.ireturn, 1) := by decide +kernel
theorem dX9_aside_13 : decode cX9_aside 13 = .ok (.aload_n 0, 1) := by decide +kernel
theorem dX9_aside_14 : decode cX9_aside 14 = .ok (.getfield 19, 3) := by decide +kernel
theorem dX9_aside_17 : decode cX9_aside 17 = .ok (.getfield 217, 3) := by decide +kernel
theorem dX9_aside_20 : decode cX9_aside 20 = .ok (.iload_n 1, 1) := by decide +kernel
theorem dX9_aside_21 : decode cX9_aside 21 = .ok (.iaload, 1) := by decide +kernel
theorem dX9_aside_22 : decode cX9_aside 22 = .ok (.istore_n 3, 1) := by decide +kernel
theorem dX9_aside_23 : decode cX9_aside 23 = .ok (.iload_n 2, 1) := by decide +kernel
theorem dX9_aside_24 : decode cX9_aside 24 = .ok (.tableswitch 86 0 3 #[32, 38, 67, 81], 32) := by decide +kernel
theorem dX9_aside_56 : decode cX9_aside 56 = .ok (.aload_n 0, 1) := by decide +kernel
theorem dX9_aside_57 : decode cX9_aside 57 = .ok (.iload_n 1, 1) := by decide +kernel
theorem dX9_aside_58 : decode cX9_aside 58 = .ok (.invokevirtual 220, 3) := by decide +kernel
theorem dX9_aside_61 : decode cX9_aside 61 = .ok (.ireturn, 1) := by decide +kernel
theorem dX9_aside_62 : decode cX9_aside 62 = .ok (.iload_n 3, 1) := by decide +kernel
theorem dX9_aside_63 : decode cX9_aside 63 = .ok (.bipush 99, 2) := by decide +kernel
theorem dX9_aside_65 : decode cX9_aside 65 = .ok (.if_icmp .ne 23, 3) := by decide +kernel
theorem dX9_aside_68 : decode cX9_aside 68 = .ok (.aload_n 0, 1) := by decide +kernel
theorem dX9_aside_69 : decode cX9_aside 69 = .ok (.getfield 29, 3) := by decide +kernel
theorem dX9_aside_72 : decode cX9_aside 72 = .ok (.getfield 96, 3) := by decide +kernel
theorem dX9_aside_75 : decode cX9_aside 75 = .ok (.getfield 105, 3) := by decide +kernel
theorem dX9_aside_78 : decode cX9_aside 78 = .ok (.bipush 8, 2) := by decide +kernel
theorem dX9_aside_80 : decode cX9_aside 80 = .ok (.if_icmp .ge 8, 3) := by decide +kernel
theorem dX9_aside_83 : decode cX9_aside 83 = .ok (.bipush 21, 2) := by decide +kernel
theorem dX9_aside_85 : decode cX9_aside 85 = .ok (.goto 5, 3) := by decide +kernel
theorem dX9_aside_88 : decode cX9_aside 88 = .ok (.bipush (-9), 2) := by decide +kernel
theorem dX9_aside_90 : decode cX9_aside 90 = .ok (.ireturn, 1) := by decide +kernel
theorem dX9_aside_91 : decode cX9_aside 91 = .ok (.iload_n 3, 1) := by decide +kernel
theorem dX9_aside_92 : decode cX9_aside 92 = .ok (.bipush 107, 2) := by decide +kernel
theorem dX9_aside_94 : decode cX9_aside 94 = .ok (.if_icmp .ne 8, 3) := by decide +kernel
theorem dX9_aside_97 : decode cX9_aside 97 = .ok (.bipush 21, 2) := by decide +kernel
theorem dX9_aside_99 : decode cX9_aside 99 = .ok (.goto 5, 3) := by decide +kernel
theorem dX9_aside_102 : decode cX9_aside 102 = .ok (.bipush (-9), 2) := by decide +kernel
theorem dX9_aside_104 : decode cX9_aside 104 = .ok (.ireturn, 1) := by decide +kernel
theorem dX9_aside_105 : decode cX9_aside 105 = .ok (.iload_n 3, 1) := by decide +kernel
theorem dX9_aside_106 : decode cX9_aside 106 = .ok (.invokestatic 223, 3) := by decide +kernel
theorem dX9_aside_109 : decode cX9_aside 109 = .ok (.ireturn, 1) := by decide +kernel
theorem dX9_aside_110 : decode cX9_aside 110 = .ok (.bipush (-2), 2) := by decide +kernel
theorem dX9_aside_112 : decode cX9_aside 112 = .ok (.ireturn, 1) := by decide +kernel
theorem dX9_followsAside_0 : decode cX9_followsAside 0 = .ok (.aload_n 0, 1) := by decide +kernel
theorem dX9_followsAside_1 : decode cX9_followsAside 1 = .ok (.getfield 29, 3) := by decide +kernel
theorem dX9_followsAside_4 : decode cX9_followsAside 4 = .ok (.getfield 96, 3) := by decide +kernel
theorem dX9_followsAside_7 : decode cX9_followsAside 7 = .ok (.astore_n 2, 1) := by decide +kernel
theorem dX9_followsAside_8 : decode cX9_followsAside 8 = .ok (.aload_n 0, 1) := by decide +kernel
theorem dX9_followsAside_9 : decode cX9_followsAside 9 = .ok (.getfield 19, 3) := by decide +kernel
theorem dX9_followsAside_12 : decode cX9_followsAside 12 = .ok (.getfield 226, 3) := by decide +kernel
theorem dX9_followsAside_15 : decode cX9_followsAside 15 = .ok (.iload_n 1, 1) := by decide +kernel
theorem dX9_followsAside_16 : decode cX9_followsAside 16 = .ok (.iaload, 1) := by decide +kernel
theorem dX9_followsAside_17 : decode cX9_followsAside 17 = .ok (.istore_n 3, 1) := by decide +kernel
theorem dX9_followsAside_18 : decode cX9_followsAside 18 = .ok (.aload_n 0, 1) := by decide +kernel
theorem dX9_followsAside_19 : decode cX9_followsAside 19 = .ok (.getfield 19, 3) := by decide +kernel
theorem dX9_followsAside_22 : decode cX9_followsAside 22 = .ok (.getfield 217, 3) := by decide +kernel
theorem dX9_followsAside_25 : decode cX9_followsAside 25 = .ok (.iload_n 1, 1) := by decide +kernel
theorem dX9_followsAside_26 : decode cX9_followsAside 26 = .ok (.iaload, 1) := by decide +kernel
theorem dX9_followsAside_27 : decode cX9_followsAside 27 = .ok (.lookupswitch 124 #[(98, 97), (99, 81), (104, 121), (106, 49), (122, 54)], 49) := by decide +kernel
theorem dX9_followsAside_76 : decode cX9_followsAside 76 = .ok (.bipush 20, 2) := by decide +kernel
theorem dX9_followsAside_78 : decode cX9_followsAside 78 = .ok (.iload_n 3, 1) := by decide +kernel
theorem dX9_followsAside_79 : decode cX9_followsAside 79 = .ok (.iadd, 1) := by decide +kernel
theorem dX9_followsAside_80 : decode cX9_followsAside 80 = .ok (.ireturn, 1) := by decide +kernel
theorem dX9_followsAside_81 : decode cX9_followsAside 81 = .ok (.aload_n 2, 1) := by decide +kernel
theorem dX9_followsAside_82 : decode cX9_followsAside 82 = .ok (.getfield 153, 3) := by decide +kernel
theorem dX9_followsAside_85 : decode cX9_followsAside 85 = .ok (.aload_n 0, 1) := by decide +kernel
theorem dX9_followsAside_86 : decode cX9_followsAside 86 = .ok (.getfield 19, 3) := by decide +kernel
theorem dX9_followsAside_89 : decode cX9_followsAside 89 = .ok (.getfield 229, 3) := by decide +kernel
theorem dX9_followsAside_92 : decode cX9_followsAside 92 = .ok (.iload_n 1, 1) := by decide +kernel
theorem dX9_followsAside_93 : decode cX9_followsAside 93 = .ok (.iaload, 1) := by decide +kernel
theorem dX9_followsAside_94 : decode cX9_followsAside 94 = .ok (.iaload, 1) := by decide +kernel
theorem dX9_followsAside_95 : decode cX9_followsAside 95 = .ok (.ifCond .ne 10, 3) := by decide +kernel
theorem dX9_followsAside_98 : decode cX9_followsAside 98 = .ok (.bipush 20, 2) := by decide +kernel
theorem dX9_followsAside_100 : decode cX9_followsAside 100 = .ok (.iload_n 3, 1) := by decide +kernel
theorem dX9_followsAside_101 : decode cX9_followsAside 101 = .ok (.iadd, 1) := by decide +kernel
theorem dX9_followsAside_102 : decode cX9_followsAside 102 = .ok (.goto 5, 3) := by decide +kernel
theorem dX9_followsAside_105 : decode cX9_followsAside 105 = .ok (.bipush 21, 2) := by decide +kernel
theorem dX9_followsAside_107 : decode cX9_followsAside 107 = .ok (.ireturn, 1) := by decide +kernel
theorem dX9_followsAside_108 : decode cX9_followsAside 108 = .ok (.aload_n 2, 1) := by decide +kernel
theorem dX9_followsAside_109 : decode cX9_followsAside 109 = .ok (.getfield 105, 3) := by decide +kernel
theorem dX9_followsAside_112 : decode cX9_followsAside 112 = .ok (.bipush 8, 2) := by decide +kernel
theorem dX9_followsAside_114 : decode cX9_followsAside 114 = .ok (.if_icmp .ge 7, 3) := by decide +kernel
theorem dX9_followsAside_117 : decode cX9_followsAside 117 = .ok (.iload_n 3, 1) := by decide +kernel
theorem dX9_followsAside_118 : decode cX9_followsAside 118 = .ok (.goto 5, 3) := by decide +kernel
theorem dX9_followsAside_121 : decode cX9_followsAside 121 = .ok (.bipush (-9), 2) := by decide +kernel
theorem dX9_followsAside_123 : decode cX9_followsAside 123 = .ok (.ireturn, 1) := by decide +kernel
theorem dX9_followsAside_124 : decode cX9_followsAside 124 = .ok (.aload_n 2, 1) := by decide +kernel
theorem dX9_followsAside_125 : decode cX9_followsAside 125 = .ok (.getfield 105, 3) := by decide +kernel
theorem dX9_followsAside_128 : decode cX9_followsAside 128 = .ok (.ifCond .le 17, 3) := by decide +kernel
theorem dX9_followsAside_131 : decode cX9_followsAside 131 = .ok (.aload_n 2, 1) := by decide +kernel
theorem dX9_followsAside_132 : decode cX9_followsAside 132 = .ok (.getfield 162, 3) := by decide +kernel
theorem dX9_followsAside_135 : decode cX9_followsAside 135 = .ok (.aload_n 2, 1) := by decide +kernel
theorem dX9_followsAside_136 : decode cX9_followsAside 136 = .ok (.getfield 105, 3) := by decide +kernel
theorem dX9_followsAside_139 : decode cX9_followsAside 139 = .ok (.iconst 1, 1) := by decide +kernel
theorem dX9_followsAside_140 : decode cX9_followsAside 140 = .ok (.isub, 1) := by decide +kernel
theorem dX9_followsAside_141 : decode cX9_followsAside 141 = .ok (.iaload, 1) := by decide +kernel
theorem dX9_followsAside_142 : decode cX9_followsAside 142 = .ok (.goto 5, 3) := by decide +kernel
theorem dX9_followsAside_145 : decode cX9_followsAside 145 = .ok (.bipush (-9), 2) := by decide +kernel
theorem dX9_followsAside_147 : decode cX9_followsAside 147 = .ok (.ireturn, 1) := by decide +kernel
theorem dX9_followsAside_148 : decode cX9_followsAside 148 = .ok (.bipush 20, 2) := by decide +kernel
theorem dX9_followsAside_150 : decode cX9_followsAside 150 = .ok (.ireturn, 1) := by decide +kernel
theorem dX9_followsAside_151 : decode cX9_followsAside 151 = .ok (.bipush 21, 2) := by decide +kernel
theorem dX9_followsAside_153 : decode cX9_followsAside 153 = .ok (.ireturn, 1) := by decide +kernel
theorem dX9_corrections_0 : decode cX9_corrections 0 = .ok (.iload_n 0, 1) := by decide +kernel
theorem dX9_corrections_1 : decode cX9_corrections 1 = .ok (.tableswitch 63 98 107 #[57, 55, 63, 63, 63, 63, 59, 63, 63, 61], 55) := by decide +kernel
theorem dX9_corrections_56 : decode cX9_corrections 56 = .ok (.iconst 2, 1) := by decide +kernel
theorem dX9_corrections_57 : decode cX9_corrections 57 = .ok (.ireturn, 1) := by decide +kernel
theorem dX9_corrections_58 : decode cX9_corrections 58 = .ok (.iconst 0, 1) := by decide +kernel
theorem dX9_corrections_59 : decode cX9_corrections 59 = .ok (.ireturn, 1) := by decide +kernel
theorem dX9_corrections_60 : decode cX9_corrections 60 = .ok (.iconst 0, 1) := by decide +kernel
theorem dX9_corrections_61 : decode cX9_corrections 61 = .ok (.ireturn, 1) := by decide +kernel
theorem dX9_corrections_62 : decode cX9_corrections 62 = .ok (.iconst 5, 1) := by decide +kernel
theorem dX9_corrections_63 : decode cX9_corrections 63 = .ok (.ireturn, 1) := by decide +kernel
theorem dX9_corrections_64 : decode cX9_corrections 64 = .ok (.iconst 1, 1) := by decide +kernel
theorem dX9_corrections_65 : decode cX9_corrections 65 = .ok (.ireturn, 1) := by decide +kernel
theorem dX9_free_0 : decode cX9_free 0 = .ok (.iload_n 1, 1) := by decide +kernel
theorem dX9_free_1 : decode cX9_free 1 = .ok (.ifCond .lt 8, 3) := by decide +kernel
theorem dX9_free_4 : decode cX9_free 4 = .ok (.iload_n 1, 1) := by decide +kernel
theorem dX9_free_5 : decode cX9_free 5 = .ok (.iconst 3, 1) := by decide +kernel
theorem dX9_free_6 : decode cX9_free 6 = .ok (.if_icmp .le 6, 3) := by decide +kernel
theorem dX9_free_9 : decode cX9_free 9 = .ok (.bipush (-2), 2) := by decide +kernel
theorem dX9_free_11 : decode cX9_free 11 = .ok (.ireturn, 1) := by decide +kernel
theorem dX9_free_12 : decode cX9_free 12 = .ok (.aload_n 0, 1) := by decide +kernel
theorem dX9_free_13 : decode cX9_free 13 = .ok (.getfield 61, 3) := by decide +kernel
theorem dX9_free_16 : decode cX9_free 16 = .ok (.aload_n 0, 1) := by decide +kernel
theorem dX9_free_17 : decode cX9_free 17 = .ok (.getfield 29, 3) := by decide +kernel
theorem dX9_free_20 : decode cX9_free 20 = .ok (.getfield 96, 3) := by decide +kernel
theorem dX9_free_23 : decode cX9_free 23 = .ok (.invokevirtual 232, 3) := by decide +kernel
theorem dX9_free_26 : decode cX9_free 26 = .ok (.aload_n 0, 1) := by decide +kernel
theorem dX9_free_27 : decode cX9_free 27 = .ok (.getfield 61, 3) := by decide +kernel
theorem dX9_free_30 : decode cX9_free 30 = .ok (.aload_n 0, 1) := by decide +kernel
theorem dX9_free_31 : decode cX9_free 31 = .ok (.getfield 19, 3) := by decide +kernel
theorem dX9_free_34 : decode cX9_free 34 = .ok (.bipush (-9), 2) := by decide +kernel
theorem dX9_free_36 : decode cX9_free 36 = .ok (.invokevirtual 236, 3) := by decide +kernel
theorem dX9_free_39 : decode cX9_free 39 = .ok (.iload_n 1, 1) := by decide +kernel
theorem dX9_free_40 : decode cX9_free 40 = .ok (.tableswitch 55 0 2 #[28, 36, 44], 28) := by decide +kernel
theorem dX9_free_68 : decode cX9_free 68 = .ok (.aload_n 0, 1) := by decide +kernel
theorem dX9_free_69 : decode cX9_free 69 = .ok (.getfield 61, 3) := by decide +kernel
theorem dX9_free_72 : decode cX9_free 72 = .ok (.getfield 240, 3) := by decide +kernel
theorem dX9_free_75 : decode cX9_free 75 = .ok (.ireturn, 1) := by decide +kernel
theorem dX9_free_76 : decode cX9_free 76 = .ok (.aload_n 0, 1) := by decide +kernel
theorem dX9_free_77 : decode cX9_free 77 = .ok (.getfield 61, 3) := by decide +kernel
theorem dX9_free_80 : decode cX9_free 80 = .ok (.getfield 243, 3) := by decide +kernel
theorem dX9_free_83 : decode cX9_free 83 = .ok (.ireturn, 1) := by decide +kernel
theorem dX9_free_84 : decode cX9_free 84 = .ok (.aload_n 0, 1) := by decide +kernel
theorem dX9_free_85 : decode cX9_free 85 = .ok (.getfield 61, 3) := by decide +kernel
theorem dX9_free_88 : decode cX9_free 88 = .ok (.getfield 246, 3) := by decide +kernel
theorem dX9_free_91 : decode cX9_free 91 = .ok (.getfield 112, 3) := by decide +kernel
theorem dX9_free_94 : decode cX9_free 94 = .ok (.ireturn, 1) := by decide +kernel
theorem dX9_free_95 : decode cX9_free 95 = .ok (.aload_n 0, 1) := by decide +kernel
theorem dX9_free_96 : decode cX9_free 96 = .ok (.getfield 61, 3) := by decide +kernel
theorem dX9_free_99 : decode cX9_free 99 = .ok (.getfield 246, 3) := by decide +kernel
theorem dX9_free_102 : decode cX9_free 102 = .ok (.getfield 115, 3) := by decide +kernel
theorem dX9_free_105 : decode cX9_free 105 = .ok (.ireturn, 1) := by decide +kernel
theorem dX9_judge_0 : decode cX9_judge 0 = .ok (.iload_n 1, 1) := by decide +kernel
theorem dX9_judge_1 : decode cX9_judge 1 = .ok (.iconst 1, 1) := by decide +kernel
theorem dX9_judge_2 : decode cX9_judge 2 = .ok (.if_icmp .lt 26, 3) := by decide +kernel
theorem dX9_judge_5 : decode cX9_judge 5 = .ok (.iload_n 1, 1) := by decide +kernel
theorem dX9_judge_6 : decode cX9_judge 6 = .ok (.iconst 4, 1) := by decide +kernel
theorem dX9_judge_7 : decode cX9_judge 7 = .ok (.if_icmp .gt 21, 3) := by decide +kernel
theorem dX9_judge_10 : decode cX9_judge 10 = .ok (.lload_n 2, 1) := by decide +kernel
theorem dX9_judge_11 : decode cX9_judge 11 = .ok (.lconst 0, 1) := by decide +kernel
theorem dX9_judge_12 : decode cX9_judge 12 = .ok (.lcmp, 1) := by decide +kernel
theorem dX9_judge_13 : decode cX9_judge 13 = .ok (.ifCond .lt 15, 3) := by decide +kernel
theorem dX9_judge_16 : decode cX9_judge 16 = .ok (.lload_n 2, 1) := by decide +kernel
theorem dX9_judge_17 : decode cX9_judge 17 = .ok (.sipush 1000, 3) := by decide +kernel
theorem dX9_judge_20 : decode cX9_judge 20 = .ok (.iload_n 1, 1) := by decide +kernel
theorem dX9_judge_21 : decode cX9_judge 21 = .ok (.invokestatic 247, 3) := by decide +kernel
theorem dX9_judge_24 : decode cX9_judge 24 = .ok (.lcmp, 1) := by decide +kernel
theorem dX9_judge_25 : decode cX9_judge 25 = .ok (.ifCond .lt 6, 3) := by decide +kernel
theorem dX9_judge_28 : decode cX9_judge 28 = .ok (.bipush (-2), 2) := by decide +kernel
theorem dX9_judge_30 : decode cX9_judge 30 = .ok (.ireturn, 1) := by decide +kernel
theorem dX9_judge_31 : decode cX9_judge 31 = .ok (.aload_n 0, 1) := by decide +kernel
theorem dX9_judge_32 : decode cX9_judge 32 = .ok (.getfield 33, 3) := by decide +kernel
theorem dX9_judge_35 : decode cX9_judge 35 = .ok (.aload_n 0, 1) := by decide +kernel
theorem dX9_judge_36 : decode cX9_judge 36 = .ok (.getfield 29, 3) := by decide +kernel
theorem dX9_judge_39 : decode cX9_judge 39 = .ok (.invokevirtual 251, 3) := by decide +kernel
theorem dX9_judge_42 : decode cX9_judge 42 = .ok (.iconst 0, 1) := by decide +kernel
theorem dX9_judge_43 : decode cX9_judge 43 = .ok (.istore 4, 2) := by decide +kernel
theorem dX9_judge_45 : decode cX9_judge 45 = .ok (.iload 4, 2) := by decide +kernel
theorem dX9_judge_47 : decode cX9_judge 47 = .ok (.iload_n 1, 1) := by decide +kernel
theorem dX9_judge_48 : decode cX9_judge 48 = .ok (.if_icmp .ge 49, 3) := by decide +kernel
theorem dX9_judge_51 : decode cX9_judge 51 = .ok (.lload_n 2, 1) := by decide +kernel
theorem dX9_judge_52 : decode cX9_judge 52 = .ok (.iload_n 1, 1) := by decide +kernel
theorem dX9_judge_53 : decode cX9_judge 53 = .ok (.iconst 1, 1) := by decide +kernel
theorem dX9_judge_54 : decode cX9_judge 54 = .ok (.isub, 1) := by decide +kernel
theorem dX9_judge_55 : decode cX9_judge 55 = .ok (.iload 4, 2) := by decide +kernel
theorem dX9_judge_57 : decode cX9_judge 57 = .ok (.isub, 1) := by decide +kernel
theorem dX9_judge_58 : decode cX9_judge 58 = .ok (.invokestatic 254, 3) := by decide +kernel
theorem dX9_judge_61 : decode cX9_judge 61 = .ok (.istore 5, 2) := by decide +kernel
theorem dX9_judge_63 : decode cX9_judge 63 = .ok (.aload_n 0, 1) := by decide +kernel
theorem dX9_judge_64 : decode cX9_judge 64 = .ok (.iload 5, 2) := by decide +kernel
theorem dX9_judge_66 : decode cX9_judge 66 = .ok (.bipush 100, 2) := by decide +kernel
theorem dX9_judge_68 : decode cX9_judge 68 = .ok (.idiv, 1) := by decide +kernel
theorem dX9_judge_69 : decode cX9_judge 69 = .ok (.iload 5, 2) := by decide +kernel
theorem dX9_judge_71 : decode cX9_judge 71 = .ok (.bipush 10, 2) := by decide +kernel
theorem dX9_judge_73 : decode cX9_judge 73 = .ok (.idiv, 1) := by decide +kernel
theorem dX9_judge_74 : decode cX9_judge 74 = .ok (.bipush 10, 2) := by decide +kernel
theorem dX9_judge_76 : decode cX9_judge 76 = .ok (.irem, 1) := by decide +kernel
theorem dX9_judge_77 : decode cX9_judge 77 = .ok (.iload 5, 2) := by decide +kernel
theorem dX9_judge_79 : decode cX9_judge 79 = .ok (.bipush 10, 2) := by decide +kernel
theorem dX9_judge_81 : decode cX9_judge 81 = .ok (.irem, 1) := by decide +kernel
theorem dX9_judge_82 : decode cX9_judge 82 = .ok (.invokevirtual 258, 3) := by decide +kernel
theorem dX9_judge_85 : decode cX9_judge 85 = .ok (.ifCond .ne 6, 3) := by decide +kernel
theorem dX9_judge_88 : decode cX9_judge 88 = .ok (.iload 4, 2) := by decide +kernel
theorem dX9_judge_90 : decode cX9_judge 90 = .ok (.ireturn, 1) := by decide +kernel
theorem dX9_judge_91 : decode cX9_judge 91 = .ok (.iinc 4 1, 3) := by decide +kernel
theorem dX9_judge_94 : decode cX9_judge 94 = .ok (.goto (-49), 3) := by decide +kernel
theorem dX9_judge_97 : decode cX9_judge 97 = .ok (.bipush (-9), 2) := by decide +kernel
theorem dX9_judge_99 : decode cX9_judge 99 = .ok (.ireturn, 1) := by decide +kernel
theorem dX9_statementAt_0 : decode cX9_statementAt 0 = .ok (.lload_n 0, 1) := by decide +kernel
theorem dX9_statementAt_1 : decode cX9_statementAt 1 = .ok (.lstore_n 3, 1) := by decide +kernel
theorem dX9_statementAt_2 : decode cX9_statementAt 2 = .ok (.iconst 0, 1) := by decide +kernel
theorem dX9_statementAt_3 : decode cX9_statementAt 3 = .ok (.istore 5, 2) := by decide +kernel
theorem dX9_statementAt_5 : decode cX9_statementAt 5 = .ok (.iload 5, 2) := by decide +kernel
theorem dX9_statementAt_7 : decode cX9_statementAt 7 = .ok (.iload_n 2, 1) := by decide +kernel
theorem dX9_statementAt_8 : decode cX9_statementAt 8 = .ok (.if_icmp .ge 15, 3) := by decide +kernel
theorem dX9_statementAt_11 : decode cX9_statementAt 11 = .ok (.lload_n 3, 1) := by decide +kernel
theorem dX9_statementAt_12 : decode cX9_statementAt 12 = .ok (.ldc2_w 262, 3) := by decide +kernel
theorem dX9_statementAt_15 : decode cX9_statementAt 15 = .ok (.ldiv, 1) := by decide +kernel
theorem dX9_statementAt_16 : decode cX9_statementAt 16 = .ok (.lstore_n 3, 1) := by decide +kernel
theorem dX9_statementAt_17 : decode cX9_statementAt 17 = .ok (.iinc 5 1, 3) := by decide +kernel
theorem dX9_statementAt_20 : decode cX9_statementAt 20 = .ok (.goto (-15), 3) := by decide +kernel
theorem dX9_statementAt_23 : decode cX9_statementAt 23 = .ok (.lload_n 3, 1) := by decide +kernel
theorem dX9_statementAt_24 : decode cX9_statementAt 24 = .ok (.ldc2_w 262, 3) := by decide +kernel
theorem dX9_statementAt_27 : decode cX9_statementAt 27 = .ok (.lrem, 1) := by decide +kernel
theorem dX9_statementAt_28 : decode cX9_statementAt 28 = .ok (.l2i, 1) := by decide +kernel
theorem dX9_statementAt_29 : decode cX9_statementAt 29 = .ok (.ireturn, 1) := by decide +kernel
theorem dX9_holds_0 : decode cX9_holds 0 = .ok (.bipush 10, 2) := by decide +kernel
theorem dX9_holds_2 : decode cX9_holds 2 = .ok (.iload_n 2, 1) := by decide +kernel
theorem dX9_holds_3 : decode cX9_holds 3 = .ok (.imul, 1) := by decide +kernel
theorem dX9_holds_4 : decode cX9_holds 4 = .ok (.iload_n 3, 1) := by decide +kernel
theorem dX9_holds_5 : decode cX9_holds 5 = .ok (.iadd, 1) := by decide +kernel
theorem dX9_holds_6 : decode cX9_holds 6 = .ok (.istore 4, 2) := by decide +kernel
theorem dX9_holds_8 : decode cX9_holds 8 = .ok (.iload_n 1, 1) := by decide +kernel
theorem dX9_holds_9 : decode cX9_holds 9 = .ok (.tableswitch 226 1 7 #[43, 76, 103, 124, 153, 181, 205], 43) := by decide +kernel
theorem dX9_holds_52 : decode cX9_holds 52 = .ok (.iload_n 2, 1) := by decide +kernel
theorem dX9_holds_53 : decode cX9_holds 53 = .ok (.ifCond .ne 30, 3) := by decide +kernel
theorem dX9_holds_56 : decode cX9_holds 56 = .ok (.iload_n 3, 1) := by decide +kernel
theorem dX9_holds_57 : decode cX9_holds 57 = .ok (.iconst 3, 1) := by decide +kernel
theorem dX9_holds_58 : decode cX9_holds 58 = .ok (.if_icmp .gt 25, 3) := by decide +kernel
theorem dX9_holds_61 : decode cX9_holds 61 = .ok (.aload_n 0, 1) := by decide +kernel
theorem dX9_holds_62 : decode cX9_holds 62 = .ok (.getfield 33, 3) := by decide +kernel
theorem dX9_holds_65 : decode cX9_holds 65 = .ok (.iload_n 3, 1) := by decide +kernel
theorem dX9_holds_66 : decode cX9_holds 66 = .ok (.aload_n 0, 1) := by decide +kernel
theorem dX9_holds_67 : decode cX9_holds 67 = .ok (.getfield 19, 3) := by decide +kernel
theorem dX9_holds_70 : decode cX9_holds 70 = .ok (.invokevirtual 182, 3) := by decide +kernel
theorem dX9_holds_73 : decode cX9_holds 73 = .ok (.invokestatic 264, 3) := by decide +kernel
theorem dX9_holds_76 : decode cX9_holds 76 = .ok (.ifCond .eq 7, 3) := by decide +kernel
theorem dX9_holds_79 : decode cX9_holds 79 = .ok (.iconst 1, 1) := by decide +kernel
theorem dX9_holds_80 : decode cX9_holds 80 = .ok (.goto 4, 3) := by decide +kernel
theorem dX9_holds_83 : decode cX9_holds 83 = .ok (.iconst 0, 1) := by decide +kernel
theorem dX9_holds_84 : decode cX9_holds 84 = .ok (.ireturn, 1) := by decide +kernel
theorem dX9_holds_85 : decode cX9_holds 85 = .ok (.aload_n 0, 1) := by decide +kernel
theorem dX9_holds_86 : decode cX9_holds 86 = .ok (.getfield 19, 3) := by decide +kernel
theorem dX9_holds_89 : decode cX9_holds 89 = .ok (.iload 4, 2) := by decide +kernel
theorem dX9_holds_91 : decode cX9_holds 91 = .ok (.invokevirtual 165, 3) := by decide +kernel
theorem dX9_holds_94 : decode cX9_holds 94 = .ok (.ifCond .eq 16, 3) := by decide +kernel
theorem dX9_holds_97 : decode cX9_holds 97 = .ok (.aload_n 0, 1) := by decide +kernel
theorem dX9_holds_98 : decode cX9_holds 98 = .ok (.iload 4, 2) := by decide +kernel
theorem dX9_holds_100 : decode cX9_holds 100 = .ok (.invokevirtual 267, 3) := by decide +kernel
theorem dX9_holds_103 : decode cX9_holds 103 = .ok (.ifCond .eq 7, 3) := by decide +kernel
theorem dX9_holds_106 : decode cX9_holds 106 = .ok (.iconst 1, 1) := by decide +kernel
theorem dX9_holds_107 : decode cX9_holds 107 = .ok (.goto 4, 3) := by decide +kernel
theorem dX9_holds_110 : decode cX9_holds 110 = .ok (.iconst 0, 1) := by decide +kernel
theorem dX9_holds_111 : decode cX9_holds 111 = .ok (.ireturn, 1) := by decide +kernel
theorem dX9_holds_112 : decode cX9_holds 112 = .ok (.aload_n 0, 1) := by decide +kernel
theorem dX9_holds_113 : decode cX9_holds 113 = .ok (.getfield 33, 3) := by decide +kernel
theorem dX9_holds_116 : decode cX9_holds 116 = .ok (.getfield 96, 3) := by decide +kernel
theorem dX9_holds_119 : decode cX9_holds 119 = .ok (.getfield 100, 3) := by decide +kernel
theorem dX9_holds_122 : decode cX9_holds 122 = .ok (.iload 4, 2) := by decide +kernel
theorem dX9_holds_124 : decode cX9_holds 124 = .ok (.if_icmp .ne 7, 3) := by decide +kernel
theorem dX9_holds_127 : decode cX9_holds 127 = .ok (.iconst 1, 1) := by decide +kernel
theorem dX9_holds_128 : decode cX9_holds 128 = .ok (.goto 4, 3) := by decide +kernel
theorem dX9_holds_131 : decode cX9_holds 131 = .ok (.iconst 0, 1) := by decide +kernel
theorem dX9_holds_132 : decode cX9_holds 132 = .ok (.ireturn, 1) := by decide +kernel
theorem dX9_holds_133 : decode cX9_holds 133 = .ok (.iload_n 2, 1) := by decide +kernel
theorem dX9_holds_134 : decode cX9_holds 134 = .ok (.invokestatic 149, 3) := by decide +kernel
theorem dX9_holds_137 : decode cX9_holds 137 = .ok (.ifCond .eq 23, 3) := by decide +kernel
theorem dX9_holds_140 : decode cX9_holds 140 = .ok (.aload_n 0, 1) := by decide +kernel
theorem dX9_holds_141 : decode cX9_holds 141 = .ok (.getfield 33, 3) := by decide +kernel
theorem dX9_holds_144 : decode cX9_holds 144 = .ok (.getfield 96, 3) := by decide +kernel
theorem dX9_holds_147 : decode cX9_holds 147 = .ok (.getfield 153, 3) := by decide +kernel
theorem dX9_holds_150 : decode cX9_holds 150 = .ok (.iload_n 2, 1) := by decide +kernel
theorem dX9_holds_151 : decode cX9_holds 151 = .ok (.iaload, 1) := by decide +kernel
theorem dX9_holds_152 : decode cX9_holds 152 = .ok (.iload_n 3, 1) := by decide +kernel
theorem dX9_holds_153 : decode cX9_holds 153 = .ok (.if_icmp .ne 7, 3) := by decide +kernel
theorem dX9_holds_156 : decode cX9_holds 156 = .ok (.iconst 1, 1) := by decide +kernel
theorem dX9_holds_157 : decode cX9_holds 157 = .ok (.goto 4, 3) := by decide +kernel
theorem dX9_holds_160 : decode cX9_holds 160 = .ok (.iconst 0, 1) := by decide +kernel
theorem dX9_holds_161 : decode cX9_holds 161 = .ok (.ireturn, 1) := by decide +kernel
theorem dX9_holds_162 : decode cX9_holds 162 = .ok (.iload_n 2, 1) := by decide +kernel
theorem dX9_holds_163 : decode cX9_holds 163 = .ok (.ifCond .ne 25, 3) := by decide +kernel
theorem dX9_holds_166 : decode cX9_holds 166 = .ok (.iload_n 3, 1) := by decide +kernel
theorem dX9_holds_167 : decode cX9_holds 167 = .ok (.invokestatic 156, 3) := by decide +kernel
theorem dX9_holds_170 : decode cX9_holds 170 = .ok (.ifCond .eq 18, 3) := by decide +kernel
theorem dX9_holds_173 : decode cX9_holds 173 = .ok (.aload_n 0, 1) := by decide +kernel
theorem dX9_holds_174 : decode cX9_holds 174 = .ok (.getfield 33, 3) := by decide +kernel
theorem dX9_holds_177 : decode cX9_holds 177 = .ok (.iload_n 3, 1) := by decide +kernel
theorem dX9_holds_178 : decode cX9_holds 178 = .ok (.invokevirtual 208, 3) := by decide +kernel
theorem dX9_holds_181 : decode cX9_holds 181 = .ok (.ifCond .eq 7, 3) := by decide +kernel
theorem dX9_holds_184 : decode cX9_holds 184 = .ok (.iconst 1, 1) := by decide +kernel
theorem dX9_holds_185 : decode cX9_holds 185 = .ok (.goto 4, 3) := by decide +kernel
theorem dX9_holds_188 : decode cX9_holds 188 = .ok (.iconst 0, 1) := by decide +kernel
theorem dX9_holds_189 : decode cX9_holds 189 = .ok (.ireturn, 1) := by decide +kernel
theorem dX9_holds_190 : decode cX9_holds 190 = .ok (.iload_n 2, 1) := by decide +kernel
theorem dX9_holds_191 : decode cX9_holds 191 = .ok (.ifCond .ne 21, 3) := by decide +kernel
theorem dX9_holds_194 : decode cX9_holds 194 = .ok (.aload_n 0, 1) := by decide +kernel
theorem dX9_holds_195 : decode cX9_holds 195 = .ok (.getfield 33, 3) := by decide +kernel
theorem dX9_holds_198 : decode cX9_holds 198 = .ok (.getfield 96, 3) := by decide +kernel
theorem dX9_holds_201 : decode cX9_holds 201 = .ok (.getfield 105, 3) := by decide +kernel
theorem dX9_holds_204 : decode cX9_holds 204 = .ok (.iload_n 3, 1) := by decide +kernel
theorem dX9_holds_205 : decode cX9_holds 205 = .ok (.if_icmp .ne 7, 3) := by decide +kernel
theorem dX9_holds_208 : decode cX9_holds 208 = .ok (.iconst 1, 1) := by decide +kernel
theorem dX9_holds_209 : decode cX9_holds 209 = .ok (.goto 4, 3) := by decide +kernel
theorem dX9_holds_212 : decode cX9_holds 212 = .ok (.iconst 0, 1) := by decide +kernel
theorem dX9_holds_213 : decode cX9_holds 213 = .ok (.ireturn, 1) := by decide +kernel
theorem dX9_holds_214 : decode cX9_holds 214 = .ok (.aload_n 0, 1) := by decide +kernel
theorem dX9_holds_215 : decode cX9_holds 215 = .ok (.getfield 33, 3) := by decide +kernel
theorem dX9_holds_218 : decode cX9_holds 218 = .ok (.getfield 96, 3) := by decide +kernel
theorem dX9_holds_221 : decode cX9_holds 221 = .ok (.getfield 112, 3) := by decide +kernel
theorem dX9_holds_224 : decode cX9_holds 224 = .ok (.iload 4, 2) := by decide +kernel
theorem dX9_holds_226 : decode cX9_holds 226 = .ok (.if_icmp .ne 7, 3) := by decide +kernel
theorem dX9_holds_229 : decode cX9_holds 229 = .ok (.iconst 1, 1) := by decide +kernel
theorem dX9_holds_230 : decode cX9_holds 230 = .ok (.goto 4, 3) := by decide +kernel
theorem dX9_holds_233 : decode cX9_holds 233 = .ok (.iconst 0, 1) := by decide +kernel
theorem dX9_holds_234 : decode cX9_holds 234 = .ok (.ireturn, 1) := by decide +kernel
theorem dX9_holds_235 : decode cX9_holds 235 = .ok (.iconst 0, 1) := by decide +kernel
theorem dX9_holds_236 : decode cX9_holds 236 = .ok (.ireturn, 1) := by decide +kernel
theorem dX9_isGood_0 : decode cX9_isGood 0 = .ok (.iload_n 0, 1) := by decide +kernel
theorem dX9_isGood_1 : decode cX9_isGood 1 = .ok (.ifCond .eq 8, 3) := by decide +kernel
theorem dX9_isGood_4 : decode cX9_isGood 4 = .ok (.iload_n 0, 1) := by decide +kernel
theorem dX9_isGood_5 : decode cX9_isGood 5 = .ok (.iconst 1, 1) := by decide +kernel
theorem dX9_isGood_6 : decode cX9_isGood 6 = .ok (.if_icmp .ne 7, 3) := by decide +kernel
theorem dX9_isGood_9 : decode cX9_isGood 9 = .ok (.iconst 1, 1) := by decide +kernel
theorem dX9_isGood_10 : decode cX9_isGood 10 = .ok (.goto 4, 3) := by decide +kernel
theorem dX9_isGood_13 : decode cX9_isGood 13 = .ok (.iconst 0, 1) := by decide +kernel
theorem dX9_isGood_14 : decode cX9_isGood 14 = .ok (.ireturn, 1) := by decide +kernel
theorem dX9_takesBreak_0 : decode cX9_takesBreak 0 = .ok (.aload_n 0, 1) := by decide +kernel
theorem dX9_takesBreak_1 : decode cX9_takesBreak 1 = .ok (.getfield 33, 3) := by decide +kernel
theorem dX9_takesBreak_4 : decode cX9_takesBreak 4 = .ok (.getfield 118, 3) := by decide +kernel
theorem dX9_takesBreak_7 : decode cX9_takesBreak 7 = .ok (.iload_n 1, 1) := by decide +kernel
theorem dX9_takesBreak_8 : decode cX9_takesBreak 8 = .ok (.invokevirtual 194, 3) := by decide +kernel
theorem dX9_takesBreak_11 : decode cX9_takesBreak 11 = .ok (.ifCond .eq 5, 3) := by decide +kernel
theorem dX9_takesBreak_14 : decode cX9_takesBreak 14 = .ok (.iconst 0, 1) := by decide +kernel
theorem dX9_takesBreak_15 : decode cX9_takesBreak 15 = .ok (.ireturn, 1) := by decide +kernel
theorem dX9_takesBreak_16 : decode cX9_takesBreak 16 = .ok (.aload_n 0, 1) := by decide +kernel
theorem dX9_takesBreak_17 : decode cX9_takesBreak 17 = .ok (.getfield 33, 3) := by decide +kernel
theorem dX9_takesBreak_20 : decode cX9_takesBreak 20 = .ok (.getfield 118, 3) := by decide +kernel
theorem dX9_takesBreak_23 : decode cX9_takesBreak 23 = .ok (.iload_n 1, 1) := by decide +kernel
theorem dX9_takesBreak_24 : decode cX9_takesBreak 24 = .ok (.bipush (-9), 2) := by decide +kernel
theorem dX9_takesBreak_26 : decode cX9_takesBreak 26 = .ok (.bipush (-9), 2) := by decide +kernel
theorem dX9_takesBreak_28 : decode cX9_takesBreak 28 = .ok (.bipush (-9), 2) := by decide +kernel
theorem dX9_takesBreak_30 : decode cX9_takesBreak 30 = .ok (.iconst 0, 1) := by decide +kernel
theorem dX9_takesBreak_31 : decode cX9_takesBreak 31 = .ok (.invokevirtual 197, 3) := by decide +kernel
theorem dX9_takesBreak_34 : decode cX9_takesBreak 34 = .ok (.iconst 1, 1) := by decide +kernel
theorem dX9_takesBreak_35 : decode cX9_takesBreak 35 = .ok (.ireturn, 1) := by decide +kernel
theorem dX9_see_0 : decode cX9_see 0 = .ok (.iload_n 1, 1) := by decide +kernel
theorem dX9_see_1 : decode cX9_see 1 = .ok (.ifCond .lt 18, 3) := by decide +kernel
theorem dX9_see_4 : decode cX9_see 4 = .ok (.iload_n 1, 1) := by decide +kernel
theorem dX9_see_5 : decode cX9_see 5 = .ok (.bipush 99, 2) := by decide +kernel
theorem dX9_see_7 : decode cX9_see 7 = .ok (.if_icmp .gt 12, 3) := by decide +kernel
theorem dX9_see_10 : decode cX9_see 10 = .ok (.iload_n 2, 1) := by decide +kernel
theorem dX9_see_11 : decode cX9_see 11 = .ok (.ifCond .lt 8, 3) := by decide +kernel
theorem dX9_see_14 : decode cX9_see 14 = .ok (.iload_n 2, 1) := by decide +kernel
theorem dX9_see_15 : decode cX9_see 15 = .ok (.iconst 1, 1) := by decide +kernel
theorem dX9_see_16 : decode cX9_see 16 = .ok (.if_icmp .le 6, 3) := by decide +kernel
theorem dX9_see_19 : decode cX9_see 19 = .ok (.bipush (-2), 2) := by decide +kernel
theorem dX9_see_21 : decode cX9_see 21 = .ok (.ireturn, 1) := by decide +kernel
theorem dX9_see_22 : decode cX9_see 22 = .ok (.aload_n 0, 1) := by decide +kernel
theorem dX9_see_23 : decode cX9_see 23 = .ok (.getfield 54, 3) := by decide +kernel
theorem dX9_see_26 : decode cX9_see 26 = .ok (.getfield 146, 3) := by decide +kernel
theorem dX9_see_29 : decode cX9_see 29 = .ok (.bipush 6, 2) := by decide +kernel
theorem dX9_see_31 : decode cX9_see 31 = .ok (.if_icmp .lt 6, 3) := by decide +kernel
theorem dX9_see_34 : decode cX9_see 34 = .ok (.bipush (-4), 2) := by decide +kernel
theorem dX9_see_36 : decode cX9_see 36 = .ok (.ireturn, 1) := by decide +kernel
theorem dX9_see_37 : decode cX9_see 37 = .ok (.aload_n 0, 1) := by decide +kernel
theorem dX9_see_38 : decode cX9_see 38 = .ok (.getfield 54, 3) := by decide +kernel
theorem dX9_see_41 : decode cX9_see 41 = .ok (.iload_n 1, 1) := by decide +kernel
theorem dX9_see_42 : decode cX9_see 42 = .ok (.iload_n 2, 1) := by decide +kernel
theorem dX9_see_43 : decode cX9_see 43 = .ok (.iconst 1, 1) := by decide +kernel
theorem dX9_see_44 : decode cX9_see 44 = .ok (.if_icmp .ne 7, 3) := by decide +kernel
theorem dX9_see_47 : decode cX9_see 47 = .ok (.iconst 1, 1) := by decide +kernel
theorem dX9_see_48 : decode cX9_see 48 = .ok (.goto 4, 3) := by decide +kernel
theorem dX9_see_51 : decode cX9_see 51 = .ok (.iconst 0, 1) := by decide +kernel
theorem dX9_see_52 : decode cX9_see 52 = .ok (.invokevirtual 270, 3) := by decide +kernel
theorem dX9_see_55 : decode cX9_see 55 = .ok (.aload_n 0, 1) := by decide +kernel
theorem dX9_see_56 : decode cX9_see 56 = .ok (.getfield 54, 3) := by decide +kernel
theorem dX9_see_59 : decode cX9_see 59 = .ok (.getfield 146, 3) := by decide +kernel
theorem dX9_see_62 : decode cX9_see 62 = .ok (.ireturn, 1) := by decide +kernel
theorem dX9_unsee_0 : decode cX9_unsee 0 = .ok (.aload_n 0, 1) := by decide +kernel
theorem dX9_unsee_1 : decode cX9_unsee 1 = .ok (.getfield 54, 3) := by decide +kernel
theorem dX9_unsee_4 : decode cX9_unsee 4 = .ok (.getfield 146, 3) := by decide +kernel
theorem dX9_unsee_7 : decode cX9_unsee 7 = .ok (.istore_n 1, 1) := by decide +kernel
theorem dX9_unsee_8 : decode cX9_unsee 8 = .ok (.aload_n 0, 1) := by decide +kernel
theorem dX9_unsee_9 : decode cX9_unsee 9 = .ok (.getfield 54, 3) := by decide +kernel
theorem dX9_unsee_12 : decode cX9_unsee 12 = .ok (.iconst 0, 1) := by decide +kernel
theorem dX9_unsee_13 : decode cX9_unsee 13 = .ok (.putfield 146, 3) := by decide +kernel
theorem dX9_unsee_16 : decode cX9_unsee 16 = .ok (.iload_n 1, 1) := by decide +kernel
theorem dX9_unsee_17 : decode cX9_unsee 17 = .ok (.ireturn, 1) := by decide +kernel
theorem dX9_which_0 : decode cX9_which 0 = .ok (.iconst 0, 1) := by decide +kernel
theorem dX9_which_1 : decode cX9_which 1 = .ok (.istore_n 1, 1) := by decide +kernel
theorem dX9_which_2 : decode cX9_which 2 = .ok (.iconst 0, 1) := by decide +kernel
theorem dX9_which_3 : decode cX9_which 3 = .ok (.istore_n 2, 1) := by decide +kernel
theorem dX9_which_4 : decode cX9_which 4 = .ok (.iload_n 2, 1) := by decide +kernel
theorem dX9_which_5 : decode cX9_which 5 = .ok (.aload_n 0, 1) := by decide +kernel
theorem dX9_which_6 : decode cX9_which 6 = .ok (.getfield 19, 3) := by decide +kernel
theorem dX9_which_9 : decode cX9_which 9 = .ok (.getfield 93, 3) := by decide +kernel
theorem dX9_which_12 : decode cX9_which 12 = .ok (.if_icmp .ge 61, 3) := by decide +kernel
theorem dX9_which_15 : decode cX9_which 15 = .ok (.aload_n 0, 1) := by decide +kernel
theorem dX9_which_16 : decode cX9_which 16 = .ok (.getfield 61, 3) := by decide +kernel
theorem dX9_which_19 : decode cX9_which 19 = .ok (.aload_n 0, 1) := by decide +kernel
theorem dX9_which_20 : decode cX9_which 20 = .ok (.getfield 29, 3) := by decide +kernel
theorem dX9_which_23 : decode cX9_which 23 = .ok (.getfield 96, 3) := by decide +kernel
theorem dX9_which_26 : decode cX9_which 26 = .ok (.invokevirtual 232, 3) := by decide +kernel
theorem dX9_which_29 : decode cX9_which 29 = .ok (.aload_n 0, 1) := by decide +kernel
theorem dX9_which_30 : decode cX9_which 30 = .ok (.getfield 61, 3) := by decide +kernel
theorem dX9_which_33 : decode cX9_which 33 = .ok (.aload_n 0, 1) := by decide +kernel
theorem dX9_which_34 : decode cX9_which 34 = .ok (.getfield 19, 3) := by decide +kernel
theorem dX9_which_37 : decode cX9_which 37 = .ok (.iload_n 2, 1) := by decide +kernel
theorem dX9_which_38 : decode cX9_which 38 = .ok (.invokevirtual 236, 3) := by decide +kernel
theorem dX9_which_41 : decode cX9_which 41 = .ok (.aload_n 0, 1) := by decide +kernel
theorem dX9_which_42 : decode cX9_which 42 = .ok (.getfield 54, 3) := by decide +kernel
theorem dX9_which_45 : decode cX9_which 45 = .ok (.aload_n 0, 1) := by decide +kernel
theorem dX9_which_46 : decode cX9_which 46 = .ok (.getfield 61, 3) := by decide +kernel
theorem dX9_which_49 : decode cX9_which 49 = .ok (.getfield 246, 3) := by decide +kernel
theorem dX9_which_52 : decode cX9_which 52 = .ok (.getfield 112, 3) := by decide +kernel
theorem dX9_which_55 : decode cX9_which 55 = .ok (.invokevirtual 273, 3) := by decide +kernel
theorem dX9_which_58 : decode cX9_which 58 = .ok (.ifCond .eq 9, 3) := by decide +kernel
theorem dX9_which_61 : decode cX9_which 61 = .ok (.iload_n 1, 1) := by decide +kernel
theorem dX9_which_62 : decode cX9_which 62 = .ok (.iconst 1, 1) := by decide +kernel
theorem dX9_which_63 : decode cX9_which 63 = .ok (.iload_n 2, 1) := by decide +kernel
theorem dX9_which_64 : decode cX9_which 64 = .ok (.ishl, 1) := by decide +kernel
theorem dX9_which_65 : decode cX9_which 65 = .ok (.ior, 1) := by decide +kernel
theorem dX9_which_66 : decode cX9_which 66 = .ok (.istore_n 1, 1) := by decide +kernel
theorem dX9_which_67 : decode cX9_which 67 = .ok (.iinc 2 1, 3) := by decide +kernel
theorem dX9_which_70 : decode cX9_which 70 = .ok (.goto (-66), 3) := by decide +kernel
theorem dX9_which_73 : decode cX9_which 73 = .ok (.iload_n 1, 1) := by decide +kernel
theorem dX9_which_74 : decode cX9_which 74 = .ok (.ireturn, 1) := by decide +kernel
theorem dX9_share_0 : decode cX9_share 0 = .ok (.aload_n 0, 1) := by decide +kernel
theorem dX9_share_1 : decode cX9_share 1 = .ok (.getfield 19, 3) := by decide +kernel
theorem dX9_share_4 : decode cX9_share 4 = .ok (.iload_n 1, 1) := by decide +kernel
theorem dX9_share_5 : decode cX9_share 5 = .ok (.invokevirtual 165, 3) := by decide +kernel
theorem dX9_share_8 : decode cX9_share 8 = .ok (.ifCond .ne 5, 3) := by decide +kernel
theorem dX9_share_11 : decode cX9_share 11 = .ok (.iconst (-1), 1) := by decide +kernel
theorem dX9_share_12 : decode cX9_share 12 = .ok (.ireturn, 1) := by decide +kernel
theorem dX9_share_13 : decode cX9_share 13 = .ok (.aload_n 0, 1) := by decide +kernel
theorem dX9_share_14 : decode cX9_share 14 = .ok (.getfield 29, 3) := by decide +kernel
theorem dX9_share_17 : decode cX9_share 17 = .ok (.getfield 118, 3) := by decide +kernel
theorem dX9_share_20 : decode cX9_share 20 = .ok (.iload_n 1, 1) := by decide +kernel
theorem dX9_share_21 : decode cX9_share 21 = .ok (.invokevirtual 201, 3) := by decide +kernel
theorem dX9_share_24 : decode cX9_share 24 = .ok (.ifCond .eq 18, 3) := by decide +kernel
theorem dX9_share_27 : decode cX9_share 27 = .ok (.aload_n 0, 1) := by decide +kernel
theorem dX9_share_28 : decode cX9_share 28 = .ok (.getfield 29, 3) := by decide +kernel
theorem dX9_share_31 : decode cX9_share 31 = .ok (.getfield 118, 3) := by decide +kernel
theorem dX9_share_34 : decode cX9_share 34 = .ok (.invokevirtual 276, 3) := by decide +kernel
theorem dX9_share_37 : decode cX9_share 37 = .ok (.bipush 6, 2) := by decide +kernel
theorem dX9_share_39 : decode cX9_share 39 = .ok (.if_icmp .le 6, 3) := by decide +kernel
theorem dX9_share_42 : decode cX9_share 42 = .ok (.bipush (-3), 2) := by decide +kernel
theorem dX9_share_44 : decode cX9_share 44 = .ok (.ireturn, 1) := by decide +kernel
theorem dX9_share_45 : decode cX9_share 45 = .ok (.aload_n 0, 1) := by decide +kernel
theorem dX9_share_46 : decode cX9_share 46 = .ok (.getfield 68, 3) := by decide +kernel
theorem dX9_share_49 : decode cX9_share 49 = .ok (.aload_n 0, 1) := by decide +kernel
theorem dX9_share_50 : decode cX9_share 50 = .ok (.getfield 29, 3) := by decide +kernel
theorem dX9_share_53 : decode cX9_share 53 = .ok (.aload_n 0, 1) := by decide +kernel
theorem dX9_share_54 : decode cX9_share 54 = .ok (.getfield 19, 3) := by decide +kernel
theorem dX9_share_57 : decode cX9_share 57 = .ok (.invokevirtual 279, 3) := by decide +kernel
theorem dX9_share_60 : decode cX9_share 60 = .ok (.aload_n 0, 1) := by decide +kernel
theorem dX9_share_61 : decode cX9_share 61 = .ok (.getfield 68, 3) := by decide +kernel
theorem dX9_share_64 : decode cX9_share 64 = .ok (.getfield 283, 3) := by decide +kernel
theorem dX9_share_67 : decode cX9_share 67 = .ok (.invokestatic 284, 3) := by decide +kernel
theorem dX9_share_70 : decode cX9_share 70 = .ok (.istore_n 3, 1) := by decide +kernel
theorem dX9_share_71 : decode cX9_share 71 = .ok (.aload_n 0, 1) := by decide +kernel
theorem dX9_share_72 : decode cX9_share 72 = .ok (.getfield 68, 3) := by decide +kernel
theorem dX9_share_75 : decode cX9_share 75 = .ok (.iload_n 1, 1) := by decide +kernel
theorem dX9_share_76 : decode cX9_share 76 = .ok (.invokevirtual 287, 3) := by decide +kernel
theorem dX9_share_79 : decode cX9_share 79 = .ok (.iload_n 3, 1) := by decide +kernel
theorem dX9_share_80 : decode cX9_share 80 = .ok (.iload_n 2, 1) := by decide +kernel
theorem dX9_share_81 : decode cX9_share 81 = .ok (.invokestatic 290, 3) := by decide +kernel
theorem dX9_share_84 : decode cX9_share 84 = .ok (.ireturn, 1) := by decide +kernel
theorem dX9_chance_0 : decode cX9_chance 0 = .ok (.iload_n 1, 1) := by decide +kernel
theorem dX9_chance_1 : decode cX9_chance 1 = .ok (.ifCond .lt 19, 3) := by decide +kernel
theorem dX9_chance_4 : decode cX9_chance 4 = .ok (.iload_n 1, 1) := by decide +kernel
theorem dX9_chance_5 : decode cX9_chance 5 = .ok (.bipush 20, 2) := by decide +kernel
theorem dX9_chance_7 : decode cX9_chance 7 = .ok (.if_icmp .gt 13, 3) := by decide +kernel
theorem dX9_chance_10 : decode cX9_chance 10 = .ok (.iload_n 2, 1) := by decide +kernel
theorem dX9_chance_11 : decode cX9_chance 11 = .ok (.ifCond .lt 9, 3) := by decide +kernel
theorem dX9_chance_14 : decode cX9_chance 14 = .ok (.iload_n 2, 1) := by decide +kernel
theorem dX9_chance_15 : decode cX9_chance 15 = .ok (.bipush 10, 2) := by decide +kernel
theorem dX9_chance_17 : decode cX9_chance 17 = .ok (.if_icmp .le 6, 3) := by decide +kernel
theorem dX9_chance_20 : decode cX9_chance 20 = .ok (.bipush (-2), 2) := by decide +kernel
theorem dX9_chance_22 : decode cX9_chance 22 = .ok (.ireturn, 1) := by decide +kernel
theorem dX9_chance_23 : decode cX9_chance 23 = .ok (.aload_n 0, 1) := by decide +kernel
theorem dX9_chance_24 : decode cX9_chance 24 = .ok (.getfield 29, 3) := by decide +kernel
theorem dX9_chance_27 : decode cX9_chance 27 = .ok (.getfield 118, 3) := by decide +kernel
theorem dX9_chance_30 : decode cX9_chance 30 = .ok (.invokevirtual 276, 3) := by decide +kernel
theorem dX9_chance_33 : decode cX9_chance 33 = .ok (.bipush 6, 2) := by decide +kernel
theorem dX9_chance_35 : decode cX9_chance 35 = .ok (.if_icmp .le 6, 3) := by decide +kernel
theorem dX9_chance_38 : decode cX9_chance 38 = .ok (.bipush (-3), 2) := by decide +kernel
theorem dX9_chance_40 : decode cX9_chance 40 = .ok (.ireturn, 1) := by decide +kernel
theorem dX9_chance_41 : decode cX9_chance 41 = .ok (.aload_n 0, 1) := by decide +kernel
theorem dX9_chance_42 : decode cX9_chance 42 = .ok (.getfield 68, 3) := by decide +kernel
theorem dX9_chance_45 : decode cX9_chance 45 = .ok (.aload_n 0, 1) := by decide +kernel
theorem dX9_chance_46 : decode cX9_chance 46 = .ok (.getfield 29, 3) := by decide +kernel
theorem dX9_chance_49 : decode cX9_chance 49 = .ok (.aload_n 0, 1) := by decide +kernel
theorem dX9_chance_50 : decode cX9_chance 50 = .ok (.getfield 19, 3) := by decide +kernel
theorem dX9_chance_53 : decode cX9_chance 53 = .ok (.invokevirtual 279, 3) := by decide +kernel
theorem dX9_chance_56 : decode cX9_chance 56 = .ok (.bipush 10, 2) := by decide +kernel
theorem dX9_chance_58 : decode cX9_chance 58 = .ok (.aload_n 0, 1) := by decide +kernel
theorem dX9_chance_59 : decode cX9_chance 59 = .ok (.getfield 68, 3) := by decide +kernel
theorem dX9_chance_62 : decode cX9_chance 62 = .ok (.getfield 283, 3) := by decide +kernel
theorem dX9_chance_65 : decode cX9_chance 65 = .ok (.invokestatic 247, 3) := by decide +kernel
theorem dX9_chance_68 : decode cX9_chance 68 = .ok (.l2i, 1) := by decide +kernel
theorem dX9_chance_69 : decode cX9_chance 69 = .ok (.istore 4, 2) := by decide +kernel
theorem dX9_chance_71 : decode cX9_chance 71 = .ok (.aload_n 0, 1) := by decide +kernel
theorem dX9_chance_72 : decode cX9_chance 72 = .ok (.getfield 68, 3) := by decide +kernel
theorem dX9_chance_75 : decode cX9_chance 75 = .ok (.iload_n 1, 1) := by decide +kernel
theorem dX9_chance_76 : decode cX9_chance 76 = .ok (.iload_n 2, 1) := by decide +kernel
theorem dX9_chance_77 : decode cX9_chance 77 = .ok (.invokevirtual 294, 3) := by decide +kernel
theorem dX9_chance_80 : decode cX9_chance 80 = .ok (.iload 4, 2) := by decide +kernel
theorem dX9_chance_82 : decode cX9_chance 82 = .ok (.iload_n 3, 1) := by decide +kernel
theorem dX9_chance_83 : decode cX9_chance 83 = .ok (.invokestatic 290, 3) := by decide +kernel
theorem dX9_chance_86 : decode cX9_chance 86 = .ok (.ireturn, 1) := by decide +kernel
theorem dX9_seed_0 : decode cX9_seed 0 = .ok (.aload_n 0, 1) := by decide +kernel
theorem dX9_seed_1 : decode cX9_seed 1 = .ok (.getfield 297, 3) := by decide +kernel
theorem dX9_seed_4 : decode cX9_seed 4 = .ok (.lstore_n 3, 1) := by decide +kernel
theorem dX9_seed_5 : decode cX9_seed 5 = .ok (.aload_n 0, 1) := by decide +kernel
theorem dX9_seed_6 : decode cX9_seed 6 = .ok (.lload_n 1, 1) := by decide +kernel
theorem dX9_seed_7 : decode cX9_seed 7 = .ok (.putfield 297, 3) := by decide +kernel
theorem dX9_seed_10 : decode cX9_seed 10 = .ok (.lload_n 3, 1) := by decide +kernel
theorem dX9_seed_11 : decode cX9_seed 11 = .ok (.lreturn, 1) := by decide +kernel
theorem dX9_drawn_0 : decode cX9_drawn 0 = .ok (.iload_n 1, 1) := by decide +kernel
theorem dX9_drawn_1 : decode cX9_drawn 1 = .ok (.iconst 1, 1) := by decide +kernel
theorem dX9_drawn_2 : decode cX9_drawn 2 = .ok (.if_icmp .lt 9, 3) := by decide +kernel
theorem dX9_drawn_5 : decode cX9_drawn 5 = .ok (.iload_n 1, 1) := by decide +kernel
theorem dX9_drawn_6 : decode cX9_drawn 6 = .ok (.bipush 10, 2) := by decide +kernel
theorem dX9_drawn_8 : decode cX9_drawn 8 = .ok (.if_icmp .le 6, 3) := by decide +kernel
theorem dX9_drawn_11 : decode cX9_drawn 11 = .ok (.bipush (-2), 2) := by decide +kernel
theorem dX9_drawn_13 : decode cX9_drawn 13 = .ok (.ireturn, 1) := by decide +kernel
theorem dX9_drawn_14 : decode cX9_drawn 14 = .ok (.iconst 0, 1) := by decide +kernel
theorem dX9_drawn_15 : decode cX9_drawn 15 = .ok (.istore_n 2, 1) := by decide +kernel
theorem dX9_drawn_16 : decode cX9_drawn 16 = .ok (.iconst 0, 1) := by decide +kernel
theorem dX9_drawn_17 : decode cX9_drawn 17 = .ok (.istore_n 3, 1) := by decide +kernel
theorem dX9_drawn_18 : decode cX9_drawn 18 = .ok (.iload_n 3, 1) := by decide +kernel
theorem dX9_drawn_19 : decode cX9_drawn 19 = .ok (.iload_n 1, 1) := by decide +kernel
theorem dX9_drawn_20 : decode cX9_drawn 20 = .ok (.if_icmp .ge 80, 3) := by decide +kernel
theorem dX9_drawn_23 : decode cX9_drawn 23 = .ok (.aload_n 0, 1) := by decide +kernel
theorem dX9_drawn_24 : decode cX9_drawn 24 = .ok (.aload_n 0, 1) := by decide +kernel
theorem dX9_drawn_25 : decode cX9_drawn 25 = .ok (.getfield 297, 3) := by decide +kernel
theorem dX9_drawn_28 : decode cX9_drawn 28 = .ok (.ldc2_w 301, 3) := by decide +kernel
theorem dX9_drawn_31 : decode cX9_drawn 31 = .ok (.lmul, 1) := by decide +kernel
theorem dX9_drawn_32 : decode cX9_drawn 32 = .ok (.ldc2_w 303, 3) := by decide +kernel
theorem dX9_drawn_35 : decode cX9_drawn 35 = .ok (.ladd, 1) := by decide +kernel
theorem dX9_drawn_36 : decode cX9_drawn 36 = .ok (.putfield 297, 3) := by decide +kernel
theorem dX9_drawn_39 : decode cX9_drawn 39 = .ok (.aload_n 0, 1) := by decide +kernel
theorem dX9_drawn_40 : decode cX9_drawn 40 = .ok (.getfield 61, 3) := by decide +kernel
theorem dX9_drawn_43 : decode cX9_drawn 43 = .ok (.aload_n 0, 1) := by decide +kernel
theorem dX9_drawn_44 : decode cX9_drawn 44 = .ok (.getfield 29, 3) := by decide +kernel
theorem dX9_drawn_47 : decode cX9_drawn 47 = .ok (.getfield 96, 3) := by decide +kernel
theorem dX9_drawn_50 : decode cX9_drawn 50 = .ok (.invokevirtual 232, 3) := by decide +kernel
theorem dX9_drawn_53 : decode cX9_drawn 53 = .ok (.aload_n 0, 1) := by decide +kernel
theorem dX9_drawn_54 : decode cX9_drawn 54 = .ok (.getfield 61, 3) := by decide +kernel
theorem dX9_drawn_57 : decode cX9_drawn 57 = .ok (.getfield 246, 3) := by decide +kernel
theorem dX9_drawn_60 : decode cX9_drawn 60 = .ok (.aload_n 0, 1) := by decide +kernel
theorem dX9_drawn_61 : decode cX9_drawn 61 = .ok (.getfield 297, 3) := by decide +kernel
theorem dX9_drawn_64 : decode cX9_drawn 64 = .ok (.bipush 33, 2) := by decide +kernel
theorem dX9_drawn_66 : decode cX9_drawn 66 = .ok (.lushr, 1) := by decide +kernel
theorem dX9_drawn_67 : decode cX9_drawn 67 = .ok (.l2i, 1) := by decide +kernel
theorem dX9_drawn_68 : decode cX9_drawn 68 = .ok (.invokevirtual 305, 3) := by decide +kernel
theorem dX9_drawn_71 : decode cX9_drawn 71 = .ok (.aload_n 0, 1) := by decide +kernel
theorem dX9_drawn_72 : decode cX9_drawn 72 = .ok (.getfield 61, 3) := by decide +kernel
theorem dX9_drawn_75 : decode cX9_drawn 75 = .ok (.aload_n 0, 1) := by decide +kernel
theorem dX9_drawn_76 : decode cX9_drawn 76 = .ok (.getfield 19, 3) := by decide +kernel
theorem dX9_drawn_79 : decode cX9_drawn 79 = .ok (.bipush (-9), 2) := by decide +kernel
theorem dX9_drawn_81 : decode cX9_drawn 81 = .ok (.invokevirtual 236, 3) := by decide +kernel
theorem dX9_drawn_84 : decode cX9_drawn 84 = .ok (.iload_n 2, 1) := by decide +kernel
theorem dX9_drawn_85 : decode cX9_drawn 85 = .ok (.aload_n 0, 1) := by decide +kernel
theorem dX9_drawn_86 : decode cX9_drawn 86 = .ok (.getfield 61, 3) := by decide +kernel
theorem dX9_drawn_89 : decode cX9_drawn 89 = .ok (.getfield 243, 3) := by decide +kernel
theorem dX9_drawn_92 : decode cX9_drawn 92 = .ok (.iadd, 1) := by decide +kernel
theorem dX9_drawn_93 : decode cX9_drawn 93 = .ok (.istore_n 2, 1) := by decide +kernel
theorem dX9_drawn_94 : decode cX9_drawn 94 = .ok (.iinc 3 1, 3) := by decide +kernel
theorem dX9_drawn_97 : decode cX9_drawn 97 = .ok (.goto (-79), 3) := by decide +kernel
theorem dX9_drawn_100 : decode cX9_drawn 100 = .ok (.iload_n 2, 1) := by decide +kernel
theorem dX9_drawn_101 : decode cX9_drawn 101 = .ok (.ireturn, 1) := by decide +kernel
theorem dX9_keep_0 : decode cX9_keep 0 = .ok (.iload_n 1, 1) := by decide +kernel
theorem dX9_keep_1 : decode cX9_keep 1 = .ok (.invokestatic 308, 3) := by decide +kernel
theorem dX9_keep_4 : decode cX9_keep 4 = .ok (.ifCond .ne 5, 3) := by decide +kernel
theorem dX9_keep_7 : decode cX9_keep 7 = .ok (.iconst (-1), 1) := by decide +kernel
theorem dX9_keep_8 : decode cX9_keep 8 = .ok (.ireturn, 1) := by decide +kernel
theorem dX9_keep_9 : decode cX9_keep 9 = .ok (.aload_n 0, 1) := by decide +kernel
theorem dX9_keep_10 : decode cX9_keep 10 = .ok (.getfield 43, 3) := by decide +kernel
theorem dX9_keep_13 : decode cX9_keep 13 = .ok (.iload_n 1, 1) := by decide +kernel
theorem dX9_keep_14 : decode cX9_keep 14 = .ok (.aaload, 1) := by decide +kernel
theorem dX9_keep_15 : decode cX9_keep 15 = .ok (.aload_n 0, 1) := by decide +kernel
theorem dX9_keep_16 : decode cX9_keep 16 = .ok (.getfield 29, 3) := by decide +kernel
theorem dX9_keep_19 : decode cX9_keep 19 = .ok (.invokevirtual 251, 3) := by decide +kernel
theorem dX9_keep_22 : decode cX9_keep 22 = .ok (.aload_n 0, 1) := by decide +kernel
theorem dX9_keep_23 : decode cX9_keep 23 = .ok (.getfield 47, 3) := by decide +kernel
theorem dX9_keep_26 : decode cX9_keep 26 = .ok (.iload_n 1, 1) := by decide +kernel
theorem dX9_keep_27 : decode cX9_keep 27 = .ok (.iconst 1, 1) := by decide +kernel
theorem dX9_keep_28 : decode cX9_keep 28 = .ok (.bastore, 1) := by decide +kernel
theorem dX9_keep_29 : decode cX9_keep 29 = .ok (.aload_n 0, 1) := by decide +kernel
theorem dX9_keep_30 : decode cX9_keep 30 = .ok (.getfield 29, 3) := by decide +kernel
theorem dX9_keep_33 : decode cX9_keep 33 = .ok (.getfield 137, 3) := by decide +kernel
theorem dX9_keep_36 : decode cX9_keep 36 = .ok (.ireturn, 1) := by decide +kernel
theorem dX9_again_0 : decode cX9_again 0 = .ok (.iload_n 1, 1) := by decide +kernel
theorem dX9_again_1 : decode cX9_again 1 = .ok (.invokestatic 308, 3) := by decide +kernel
theorem dX9_again_4 : decode cX9_again 4 = .ok (.ifCond .ne 5, 3) := by decide +kernel
theorem dX9_again_7 : decode cX9_again 7 = .ok (.iconst (-1), 1) := by decide +kernel
theorem dX9_again_8 : decode cX9_again 8 = .ok (.ireturn, 1) := by decide +kernel
theorem dX9_again_9 : decode cX9_again 9 = .ok (.aload_n 0, 1) := by decide +kernel
theorem dX9_again_10 : decode cX9_again 10 = .ok (.getfield 47, 3) := by decide +kernel
theorem dX9_again_13 : decode cX9_again 13 = .ok (.iload_n 1, 1) := by decide +kernel
theorem dX9_again_14 : decode cX9_again 14 = .ok (.baload, 1) := by decide +kernel
theorem dX9_again_15 : decode cX9_again 15 = .ok (.ifCond .ne 6, 3) := by decide +kernel
theorem dX9_again_18 : decode cX9_again 18 = .ok (.bipush (-3), 2) := by decide +kernel
theorem dX9_again_20 : decode cX9_again 20 = .ok (.ireturn, 1) := by decide +kernel
theorem dX9_again_21 : decode cX9_again 21 = .ok (.aload_n 0, 1) := by decide +kernel
theorem dX9_again_22 : decode cX9_again 22 = .ok (.getfield 29, 3) := by decide +kernel
theorem dX9_again_25 : decode cX9_again 25 = .ok (.aload_n 0, 1) := by decide +kernel
theorem dX9_again_26 : decode cX9_again 26 = .ok (.getfield 43, 3) := by decide +kernel
theorem dX9_again_29 : decode cX9_again 29 = .ok (.iload_n 1, 1) := by decide +kernel
theorem dX9_again_30 : decode cX9_again 30 = .ok (.aaload, 1) := by decide +kernel
theorem dX9_again_31 : decode cX9_again 31 = .ok (.invokevirtual 251, 3) := by decide +kernel
theorem dX9_again_34 : decode cX9_again 34 = .ok (.aload_n 0, 1) := by decide +kernel
theorem dX9_again_35 : decode cX9_again 35 = .ok (.getfield 39, 3) := by decide +kernel
theorem dX9_again_38 : decode cX9_again 38 = .ok (.invokevirtual 87, 3) := by decide +kernel
theorem dX9_again_41 : decode cX9_again 41 = .ok (.aload_n 0, 1) := by decide +kernel
theorem dX9_again_42 : decode cX9_again 42 = .ok (.getfield 29, 3) := by decide +kernel
theorem dX9_again_45 : decode cX9_again 45 = .ok (.getfield 137, 3) := by decide +kernel
theorem dX9_again_48 : decode cX9_again 48 = .ok (.ireturn, 1) := by decide +kernel
theorem dX9_isRegister_0 : decode cX9_isRegister 0 = .ok (.iload_n 0, 1) := by decide +kernel
theorem dX9_isRegister_1 : decode cX9_isRegister 1 = .ok (.ifCond .lt 12, 3) := by decide +kernel
theorem dX9_isRegister_4 : decode cX9_isRegister 4 = .ok (.iload_n 0, 1) := by decide +kernel
theorem dX9_isRegister_5 : decode cX9_isRegister 5 = .ok (.iconst 4, 1) := by decide +kernel
theorem dX9_isRegister_6 : decode cX9_isRegister 6 = .ok (.if_icmp .ge 7, 3) := by decide +kernel
theorem dX9_isRegister_9 : decode cX9_isRegister 9 = .ok (.iconst 1, 1) := by decide +kernel
theorem dX9_isRegister_10 : decode cX9_isRegister 10 = .ok (.goto 4, 3) := by decide +kernel
theorem dX9_isRegister_13 : decode cX9_isRegister 13 = .ok (.iconst 0, 1) := by decide +kernel
theorem dX9_isRegister_14 : decode cX9_isRegister 14 = .ok (.ireturn, 1) := by decide +kernel
theorem dX9_isCell_0 : decode cX9_isCell 0 = .ok (.iload_n 0, 1) := by decide +kernel
theorem dX9_isCell_1 : decode cX9_isCell 1 = .ok (.ifCond .lt 13, 3) := by decide +kernel
theorem dX9_isCell_4 : decode cX9_isCell 4 = .ok (.iload_n 0, 1) := by decide +kernel
theorem dX9_isCell_5 : decode cX9_isCell 5 = .ok (.bipush 8, 2) := by decide +kernel
theorem dX9_isCell_7 : decode cX9_isCell 7 = .ok (.if_icmp .ge 7, 3) := by decide +kernel
theorem dX9_isCell_10 : decode cX9_isCell 10 = .ok (.iconst 1, 1) := by decide +kernel
theorem dX9_isCell_11 : decode cX9_isCell 11 = .ok (.goto 4, 3) := by decide +kernel
theorem dX9_isCell_14 : decode cX9_isCell 14 = .ok (.iconst 0, 1) := by decide +kernel
theorem dX9_isCell_15 : decode cX9_isCell 15 = .ok (.ireturn, 1) := by decide +kernel
theorem dX9_isSlot_0 : decode cX9_isSlot 0 = .ok (.iload_n 0, 1) := by decide +kernel
theorem dX9_isSlot_1 : decode cX9_isSlot 1 = .ok (.ifCond .lt 12, 3) := by decide +kernel
theorem dX9_isSlot_4 : decode cX9_isSlot 4 = .ok (.iload_n 0, 1) := by decide +kernel
theorem dX9_isSlot_5 : decode cX9_isSlot 5 = .ok (.iconst 2, 1) := by decide +kernel
theorem dX9_isSlot_6 : decode cX9_isSlot 6 = .ok (.if_icmp .ge 7, 3) := by decide +kernel
theorem dX9_isSlot_9 : decode cX9_isSlot 9 = .ok (.iconst 1, 1) := by decide +kernel
theorem dX9_isSlot_10 : decode cX9_isSlot 10 = .ok (.goto 4, 3) := by decide +kernel
theorem dX9_isSlot_13 : decode cX9_isSlot 13 = .ok (.iconst 0, 1) := by decide +kernel
theorem dX9_isSlot_14 : decode cX9_isSlot 14 = .ok (.ireturn, 1) := by decide +kernel
theorem dX9_power_0 : decode cX9_power 0 = .ok (.lconst 1, 1) := by decide +kernel
theorem dX9_power_1 : decode cX9_power 1 = .ok (.lstore_n 2, 1) := by decide +kernel
theorem dX9_power_2 : decode cX9_power 2 = .ok (.iconst 0, 1) := by decide +kernel
theorem dX9_power_3 : decode cX9_power 3 = .ok (.istore 4, 2) := by decide +kernel
theorem dX9_power_5 : decode cX9_power 5 = .ok (.iload 4, 2) := by decide +kernel
theorem dX9_power_7 : decode cX9_power 7 = .ok (.iload_n 1, 1) := by decide +kernel
theorem dX9_power_8 : decode cX9_power 8 = .ok (.if_icmp .ge 14, 3) := by decide +kernel
theorem dX9_power_11 : decode cX9_power 11 = .ok (.lload_n 2, 1) := by decide +kernel
theorem dX9_power_12 : decode cX9_power 12 = .ok (.iload_n 0, 1) := by decide +kernel
theorem dX9_power_13 : decode cX9_power 13 = .ok (.i2l, 1) := by decide +kernel
theorem dX9_power_14 : decode cX9_power 14 = .ok (.lmul, 1) := by decide +kernel
theorem dX9_power_15 : decode cX9_power 15 = .ok (.lstore_n 2, 1) := by decide +kernel
theorem dX9_power_16 : decode cX9_power 16 = .ok (.iinc 4 1, 3) := by decide +kernel
theorem dX9_power_19 : decode cX9_power 19 = .ok (.goto (-14), 3) := by decide +kernel
theorem dX9_power_22 : decode cX9_power 22 = .ok (.lload_n 2, 1) := by decide +kernel
theorem dX9_power_23 : decode cX9_power 23 = .ok (.lreturn, 1) := by decide +kernel
theorem dX9_factorial_0 : decode cX9_factorial 0 = .ok (.iconst 1, 1) := by decide +kernel
theorem dX9_factorial_1 : decode cX9_factorial 1 = .ok (.istore_n 1, 1) := by decide +kernel
theorem dX9_factorial_2 : decode cX9_factorial 2 = .ok (.iconst 2, 1) := by decide +kernel
theorem dX9_factorial_3 : decode cX9_factorial 3 = .ok (.istore_n 2, 1) := by decide +kernel
theorem dX9_factorial_4 : decode cX9_factorial 4 = .ok (.iload_n 2, 1) := by decide +kernel
theorem dX9_factorial_5 : decode cX9_factorial 5 = .ok (.iload_n 0, 1) := by decide +kernel
theorem dX9_factorial_6 : decode cX9_factorial 6 = .ok (.if_icmp .gt 13, 3) := by decide +kernel
theorem dX9_factorial_9 : decode cX9_factorial 9 = .ok (.iload_n 1, 1) := by decide +kernel
theorem dX9_factorial_10 : decode cX9_factorial 10 = .ok (.iload_n 2, 1) := by decide +kernel
theorem dX9_factorial_11 : decode cX9_factorial 11 = .ok (.imul, 1) := by decide +kernel
theorem dX9_factorial_12 : decode cX9_factorial 12 = .ok (.istore_n 1, 1) := by decide +kernel
theorem dX9_factorial_13 : decode cX9_factorial 13 = .ok (.iinc 2 1, 3) := by decide +kernel
theorem dX9_factorial_16 : decode cX9_factorial 16 = .ok (.goto (-12), 3) := by decide +kernel
theorem dX9_factorial_19 : decode cX9_factorial 19 = .ok (.iload_n 1, 1) := by decide +kernel
theorem dX9_factorial_20 : decode cX9_factorial 20 = .ok (.ireturn, 1) := by decide +kernel
theorem dX9_partOf_0 : decode cX9_partOf 0 = .ok (.iload_n 0, 1) := by decide +kernel
theorem dX9_partOf_1 : decode cX9_partOf 1 = .ok (.invokestatic 311, 3) := by decide +kernel
theorem dX9_partOf_4 : decode cX9_partOf 4 = .ok (.iload_n 1, 1) := by decide +kernel
theorem dX9_partOf_5 : decode cX9_partOf 5 = .ok (.invokestatic 316, 3) := by decide +kernel
theorem dX9_partOf_8 : decode cX9_partOf 8 = .ok (.istore_n 3, 1) := by decide +kernel
theorem dX9_partOf_9 : decode cX9_partOf 9 = .ok (.iload_n 3, 1) := by decide +kernel
theorem dX9_partOf_10 : decode cX9_partOf 10 = .ok (.ifCond .ne 5, 3) := by decide +kernel
theorem dX9_partOf_13 : decode cX9_partOf 13 = .ok (.iconst 0, 1) := by decide +kernel
theorem dX9_partOf_14 : decode cX9_partOf 14 = .ok (.ireturn, 1) := by decide +kernel
theorem dX9_partOf_15 : decode cX9_partOf 15 = .ok (.iload_n 2, 1) := by decide +kernel
theorem dX9_partOf_16 : decode cX9_partOf 16 = .ok (.ifCond .eq 9, 3) := by decide +kernel
theorem dX9_partOf_19 : decode cX9_partOf 19 = .ok (.iload_n 0, 1) := by decide +kernel
theorem dX9_partOf_20 : decode cX9_partOf 20 = .ok (.iload_n 3, 1) := by decide +kernel
theorem dX9_partOf_21 : decode cX9_partOf 21 = .ok (.idiv, 1) := by decide +kernel
theorem dX9_partOf_22 : decode cX9_partOf 22 = .ok (.goto 6, 3) := by decide +kernel
theorem dX9_partOf_25 : decode cX9_partOf 25 = .ok (.iload_n 1, 1) := by decide +kernel
theorem dX9_partOf_26 : decode cX9_partOf 26 = .ok (.iload_n 3, 1) := by decide +kernel
theorem dX9_partOf_27 : decode cX9_partOf 27 = .ok (.idiv, 1) := by decide +kernel
theorem dX9_partOf_28 : decode cX9_partOf 28 = .ok (.ireturn, 1) := by decide +kernel
theorem dX9_commonDivisor_0 : decode cX9_commonDivisor 0 = .ok (.iload_n 0, 1) := by decide +kernel
theorem dX9_commonDivisor_1 : decode cX9_commonDivisor 1 = .ok (.istore_n 2, 1) := by decide +kernel
theorem dX9_commonDivisor_2 : decode cX9_commonDivisor 2 = .ok (.iload_n 1, 1) := by decide +kernel
theorem dX9_commonDivisor_3 : decode cX9_commonDivisor 3 = .ok (.istore_n 3, 1) := by decide +kernel
theorem dX9_commonDivisor_4 : decode cX9_commonDivisor 4 = .ok (.iconst 0, 1) := by decide +kernel
theorem dX9_commonDivisor_5 : decode cX9_commonDivisor 5 = .ok (.istore 4, 2) := by decide +kernel
theorem dX9_commonDivisor_7 : decode cX9_commonDivisor 7 = .ok (.iload 4, 2) := by decide +kernel
theorem dX9_commonDivisor_9 : decode cX9_commonDivisor 9 = .ok (.bipush 50, 2) := by decide +kernel
theorem dX9_commonDivisor_11 : decode cX9_commonDivisor 11 = .ok (.if_icmp .ge 23, 3) := by decide +kernel
theorem dX9_commonDivisor_14 : decode cX9_commonDivisor 14 = .ok (.iload_n 3, 1) := by decide +kernel
theorem dX9_commonDivisor_15 : decode cX9_commonDivisor 15 = .ok (.ifCond .eq 19, 3) := by decide +kernel
theorem dX9_commonDivisor_18 : decode cX9_commonDivisor 18 = .ok (.iload_n 2, 1) := by decide +kernel
theorem dX9_commonDivisor_19 : decode cX9_commonDivisor 19 = .ok (.iload_n 3, 1) := by decide +kernel
theorem dX9_commonDivisor_20 : decode cX9_commonDivisor 20 = .ok (.irem, 1) := by decide +kernel
theorem dX9_commonDivisor_21 : decode cX9_commonDivisor 21 = .ok (.istore 5, 2) := by decide +kernel
theorem dX9_commonDivisor_23 : decode cX9_commonDivisor 23 = .ok (.iload_n 3, 1) := by decide +kernel
theorem dX9_commonDivisor_24 : decode cX9_commonDivisor 24 = .ok (.istore_n 2, 1) := by decide +kernel
theorem dX9_commonDivisor_25 : decode cX9_commonDivisor 25 = .ok (.iload 5, 2) := by decide +kernel
theorem dX9_commonDivisor_27 : decode cX9_commonDivisor 27 = .ok (.istore_n 3, 1) := by decide +kernel
theorem dX9_commonDivisor_28 : decode cX9_commonDivisor 28 = .ok (.iinc 4 1, 3) := by decide +kernel
theorem dX9_commonDivisor_31 : decode cX9_commonDivisor 31 = .ok (.goto (-24), 3) := by decide +kernel
theorem dX9_commonDivisor_34 : decode cX9_commonDivisor 34 = .ok (.iload_n 2, 1) := by decide +kernel
theorem dX9_commonDivisor_35 : decode cX9_commonDivisor 35 = .ok (.ireturn, 1) := by decide +kernel
