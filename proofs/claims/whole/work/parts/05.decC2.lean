theorem dX10_about_127 : decode cX10_about 127 = .ok (.getfield 22, 3) := by decide +kernel
theorem dX10_about_130 : decode cX10_about 130 = .ok (.bipush 25, 2) := by decide +kernel
theorem dX10_about_132 : decode cX10_about 132 = .ok (.iaload, 1) := by decide +kernel
theorem dX10_about_133 : decode cX10_about 133 = .ok (.ireturn, 1) := by decide +kernel
theorem dX10_about_134 : decode cX10_about 134 = .ok (.aload_n 0, 1) := by decide +kernel
theorem dX10_about_135 : decode cX10_about 135 = .ok (.getfield 22, 3) := by decide +kernel
theorem dX10_about_138 : decode cX10_about 138 = .ok (.bipush 122, 2) := by decide +kernel
theorem dX10_about_140 : decode cX10_about 140 = .ok (.iaload, 1) := by decide +kernel
theorem dX10_about_141 : decode cX10_about 141 = .ok (.ireturn, 1) := by decide +kernel
theorem dX10_about_142 : decode cX10_about 142 = .ok (.aload_n 0, 1) := by decide +kernel
theorem dX10_about_143 : decode cX10_about 143 = .ok (.getfield 22, 3) := by decide +kernel
theorem dX10_about_146 : decode cX10_about 146 = .ok (.bipush 126, 2) := by decide +kernel
theorem dX10_about_148 : decode cX10_about 148 = .ok (.iaload, 1) := by decide +kernel
theorem dX10_about_149 : decode cX10_about 149 = .ok (.ireturn, 1) := by decide +kernel
theorem dX10_about_150 : decode cX10_about 150 = .ok (.aload_n 0, 1) := by decide +kernel
theorem dX10_about_151 : decode cX10_about 151 = .ok (.getfield 22, 3) := by decide +kernel
theorem dX10_about_154 : decode cX10_about 154 = .ok (.bipush 127, 2) := by decide +kernel
theorem dX10_about_156 : decode cX10_about 156 = .ok (.iaload, 1) := by decide +kernel
theorem dX10_about_157 : decode cX10_about 157 = .ok (.ireturn, 1) := by decide +kernel
theorem dX10_about_158 : decode cX10_about 158 = .ok (.aload_n 0, 1) := by decide +kernel
theorem dX10_about_159 : decode cX10_about 159 = .ok (.invokevirtual 192, 3) := by decide +kernel
theorem dX10_about_162 : decode cX10_about 162 = .ok (.ireturn, 1) := by decide +kernel
theorem dX10_about_163 : decode cX10_about 163 = .ok (.aload_n 0, 1) := by decide +kernel
theorem dX10_about_164 : decode cX10_about 164 = .ok (.getfield 132, 3) := by decide +kernel
theorem dX10_about_167 : decode cX10_about 167 = .ok (.ireturn, 1) := by decide +kernel
theorem dX10_about_168 : decode cX10_about 168 = .ok (.aload_n 0, 1) := by decide +kernel
theorem dX10_about_169 : decode cX10_about 169 = .ok (.getfield 195, 3) := by decide +kernel
theorem dX10_about_172 : decode cX10_about 172 = .ok (.ireturn, 1) := by decide +kernel
theorem dX10_about_173 : decode cX10_about 173 = .ok (.aload_n 0, 1) := by decide +kernel
theorem dX10_about_174 : decode cX10_about 174 = .ok (.getfield 79, 3) := by decide +kernel
theorem dX10_about_177 : decode cX10_about 177 = .ok (.ireturn, 1) := by decide +kernel
theorem dX10_about_178 : decode cX10_about 178 = .ok (.bipush (-2), 2) := by decide +kernel
theorem dX10_about_180 : decode cX10_about 180 = .ok (.ireturn, 1) := by decide +kernel
theorem dX10_register_0 : decode cX10_register 0 = .ok (.iload_n 1, 1) := by decide +kernel
theorem dX10_register_1 : decode cX10_register 1 = .ok (.i2l, 1) := by decide +kernel
theorem dX10_register_2 : decode cX10_register 2 = .ok (.lconst 0, 1) := by decide +kernel
theorem dX10_register_3 : decode cX10_register 3 = .ok (.ldc2_w 107, 3) := by decide +kernel
theorem dX10_register_6 : decode cX10_register 6 = .ok (.invokestatic 73, 3) := by decide +kernel
theorem dX10_register_9 : decode cX10_register 9 = .ok (.ifCond .eq 12, 3) := by decide +kernel
theorem dX10_register_12 : decode cX10_register 12 = .ok (.aload_n 0, 1) := by decide +kernel
theorem dX10_register_13 : decode cX10_register 13 = .ok (.getfield 22, 3) := by decide +kernel
theorem dX10_register_16 : decode cX10_register 16 = .ok (.iload_n 1, 1) := by decide +kernel
theorem dX10_register_17 : decode cX10_register 17 = .ok (.iaload, 1) := by decide +kernel
theorem dX10_register_18 : decode cX10_register 18 = .ok (.goto 4, 3) := by decide +kernel
theorem dX10_register_21 : decode cX10_register 21 = .ok (.iconst (-1), 1) := by decide +kernel
theorem dX10_register_22 : decode cX10_register 22 = .ok (.ireturn, 1) := by decide +kernel
theorem dX10_cell_0 : decode cX10_cell 0 = .ok (.iload_n 1, 1) := by decide +kernel
theorem dX10_cell_1 : decode cX10_cell 1 = .ok (.i2l, 1) := by decide +kernel
theorem dX10_cell_2 : decode cX10_cell 2 = .ok (.lconst 0, 1) := by decide +kernel
theorem dX10_cell_3 : decode cX10_cell 3 = .ok (.ldc2_w 120, 3) := by decide +kernel
theorem dX10_cell_6 : decode cX10_cell 6 = .ok (.invokestatic 73, 3) := by decide +kernel
theorem dX10_cell_9 : decode cX10_cell 9 = .ok (.ifCond .eq 14, 3) := by decide +kernel
theorem dX10_cell_12 : decode cX10_cell 12 = .ok (.aload_n 0, 1) := by decide +kernel
theorem dX10_cell_13 : decode cX10_cell 13 = .ok (.getfield 22, 3) := by decide +kernel
theorem dX10_cell_16 : decode cX10_cell 16 = .ok (.iconst 4, 1) := by decide +kernel
theorem dX10_cell_17 : decode cX10_cell 17 = .ok (.iload_n 1, 1) := by decide +kernel
theorem dX10_cell_18 : decode cX10_cell 18 = .ok (.iadd, 1) := by decide +kernel
theorem dX10_cell_19 : decode cX10_cell 19 = .ok (.iaload, 1) := by decide +kernel
theorem dX10_cell_20 : decode cX10_cell 20 = .ok (.goto 4, 3) := by decide +kernel
theorem dX10_cell_23 : decode cX10_cell 23 = .ok (.iconst (-1), 1) := by decide +kernel
theorem dX10_cell_24 : decode cX10_cell 24 = .ok (.ireturn, 1) := by decide +kernel
theorem dX10_stack_0 : decode cX10_stack 0 = .ok (.iload_n 1, 1) := by decide +kernel
theorem dX10_stack_1 : decode cX10_stack 1 = .ok (.i2l, 1) := by decide +kernel
theorem dX10_stack_2 : decode cX10_stack 2 = .ok (.lconst 0, 1) := by decide +kernel
theorem dX10_stack_3 : decode cX10_stack 3 = .ok (.aload_n 0, 1) := by decide +kernel
theorem dX10_stack_4 : decode cX10_stack 4 = .ok (.getfield 22, 3) := by decide +kernel
theorem dX10_stack_7 : decode cX10_stack 7 = .ok (.bipush 20, 2) := by decide +kernel
theorem dX10_stack_9 : decode cX10_stack 9 = .ok (.iaload, 1) := by decide +kernel
theorem dX10_stack_10 : decode cX10_stack 10 = .ok (.iconst 1, 1) := by decide +kernel
theorem dX10_stack_11 : decode cX10_stack 11 = .ok (.isub, 1) := by decide +kernel
theorem dX10_stack_12 : decode cX10_stack 12 = .ok (.i2l, 1) := by decide +kernel
theorem dX10_stack_13 : decode cX10_stack 13 = .ok (.invokestatic 73, 3) := by decide +kernel
theorem dX10_stack_16 : decode cX10_stack 16 = .ok (.ifCond .eq 15, 3) := by decide +kernel
theorem dX10_stack_19 : decode cX10_stack 19 = .ok (.aload_n 0, 1) := by decide +kernel
theorem dX10_stack_20 : decode cX10_stack 20 = .ok (.getfield 22, 3) := by decide +kernel
theorem dX10_stack_23 : decode cX10_stack 23 = .ok (.bipush 12, 2) := by decide +kernel
theorem dX10_stack_25 : decode cX10_stack 25 = .ok (.iload_n 1, 1) := by decide +kernel
theorem dX10_stack_26 : decode cX10_stack 26 = .ok (.iadd, 1) := by decide +kernel
theorem dX10_stack_27 : decode cX10_stack 27 = .ok (.iaload, 1) := by decide +kernel
theorem dX10_stack_28 : decode cX10_stack 28 = .ok (.goto 5, 3) := by decide +kernel
theorem dX10_stack_31 : decode cX10_stack 31 = .ok (.bipush (-9), 2) := by decide +kernel
theorem dX10_stack_33 : decode cX10_stack 33 = .ok (.ireturn, 1) := by decide +kernel
theorem dX10_broken_0 : decode cX10_broken 0 = .ok (.aload_n 0, 1) := by decide +kernel
theorem dX10_broken_1 : decode cX10_broken 1 = .ok (.iload_n 1, 1) := by decide +kernel
theorem dX10_broken_2 : decode cX10_broken 2 = .ok (.invokevirtual 135, 3) := by decide +kernel
theorem dX10_broken_5 : decode cX10_broken 5 = .ok (.ifCond .ne 5, 3) := by decide +kernel
theorem dX10_broken_8 : decode cX10_broken 8 = .ok (.iconst (-1), 1) := by decide +kernel
theorem dX10_broken_9 : decode cX10_broken 9 = .ok (.ireturn, 1) := by decide +kernel
theorem dX10_broken_10 : decode cX10_broken 10 = .ok (.aload_n 0, 1) := by decide +kernel
theorem dX10_broken_11 : decode cX10_broken 11 = .ok (.getfield 22, 3) := by decide +kernel
theorem dX10_broken_14 : decode cX10_broken 14 = .ok (.bipush 26, 2) := by decide +kernel
theorem dX10_broken_16 : decode cX10_broken 16 = .ok (.iload_n 1, 1) := by decide +kernel
theorem dX10_broken_17 : decode cX10_broken 17 = .ok (.iadd, 1) := by decide +kernel
theorem dX10_broken_18 : decode cX10_broken 18 = .ok (.iaload, 1) := by decide +kernel
theorem dX10_broken_19 : decode cX10_broken 19 = .ok (.ifCond .ne 7, 3) := by decide +kernel
theorem dX10_broken_22 : decode cX10_broken 22 = .ok (.iconst 1, 1) := by decide +kernel
theorem dX10_broken_23 : decode cX10_broken 23 = .ok (.goto 4, 3) := by decide +kernel
theorem dX10_broken_26 : decode cX10_broken 26 = .ok (.iconst 0, 1) := by decide +kernel
theorem dX10_broken_27 : decode cX10_broken 27 = .ok (.istore_n 3, 1) := by decide +kernel
theorem dX10_broken_28 : decode cX10_broken 28 = .ok (.iload_n 3, 1) := by decide +kernel
theorem dX10_broken_29 : decode cX10_broken 29 = .ok (.ifCond .ne 17, 3) := by decide +kernel
theorem dX10_broken_32 : decode cX10_broken 32 = .ok (.aload_n 0, 1) := by decide +kernel
theorem dX10_broken_33 : decode cX10_broken 33 = .ok (.getfield 22, 3) := by decide +kernel
theorem dX10_broken_36 : decode cX10_broken 36 = .ok (.bipush 42, 2) := by decide +kernel
theorem dX10_broken_38 : decode cX10_broken 38 = .ok (.iload_n 1, 1) := by decide +kernel
theorem dX10_broken_39 : decode cX10_broken 39 = .ok (.iadd, 1) := by decide +kernel
theorem dX10_broken_40 : decode cX10_broken 40 = .ok (.iaload, 1) := by decide +kernel
theorem dX10_broken_41 : decode cX10_broken 41 = .ok (.bipush (-9), 2) := by decide +kernel
theorem dX10_broken_43 : decode cX10_broken 43 = .ok (.if_icmp .ne 7, 3) := by decide +kernel
theorem dX10_broken_46 : decode cX10_broken 46 = .ok (.iconst 1, 1) := by decide +kernel
theorem dX10_broken_47 : decode cX10_broken 47 = .ok (.goto 4, 3) := by decide +kernel
theorem dX10_broken_50 : decode cX10_broken 50 = .ok (.iconst 0, 1) := by decide +kernel
theorem dX10_broken_51 : decode cX10_broken 51 = .ok (.istore 4, 2) := by decide +kernel
theorem dX10_broken_53 : decode cX10_broken 53 = .ok (.iload_n 2, 1) := by decide +kernel
theorem dX10_broken_54 : decode cX10_broken 54 = .ok (.tableswitch 144 0 5 #[38, 48, 68, 88, 108, 126], 38) := by decide +kernel
theorem dX10_broken_92 : decode cX10_broken 92 = .ok (.aload_n 0, 1) := by decide +kernel
theorem dX10_broken_93 : decode cX10_broken 93 = .ok (.getfield 22, 3) := by decide +kernel
theorem dX10_broken_96 : decode cX10_broken 96 = .ok (.bipush 26, 2) := by decide +kernel
theorem dX10_broken_98 : decode cX10_broken 98 = .ok (.iload_n 1, 1) := by decide +kernel
theorem dX10_broken_99 : decode cX10_broken 99 = .ok (.iadd, 1) := by decide +kernel
theorem dX10_broken_100 : decode cX10_broken 100 = .ok (.iaload, 1) := by decide +kernel
theorem dX10_broken_101 : decode cX10_broken 101 = .ok (.ireturn, 1) := by decide +kernel
theorem dX10_broken_102 : decode cX10_broken 102 = .ok (.iload 4, 2) := by decide +kernel
theorem dX10_broken_104 : decode cX10_broken 104 = .ok (.ifCond .eq 8, 3) := by decide +kernel
theorem dX10_broken_107 : decode cX10_broken 107 = .ok (.bipush (-9), 2) := by decide +kernel
theorem dX10_broken_109 : decode cX10_broken 109 = .ok (.goto 12, 3) := by decide +kernel
theorem dX10_broken_112 : decode cX10_broken 112 = .ok (.aload_n 0, 1) := by decide +kernel
theorem dX10_broken_113 : decode cX10_broken 113 = .ok (.getfield 22, 3) := by decide +kernel
theorem dX10_broken_116 : decode cX10_broken 116 = .ok (.bipush 42, 2) := by decide +kernel
theorem dX10_broken_118 : decode cX10_broken 118 = .ok (.iload_n 1, 1) := by decide +kernel
theorem dX10_broken_119 : decode cX10_broken 119 = .ok (.iadd, 1) := by decide +kernel
theorem dX10_broken_120 : decode cX10_broken 120 = .ok (.iaload, 1) := by decide +kernel
theorem dX10_broken_121 : decode cX10_broken 121 = .ok (.ireturn, 1) := by decide +kernel
theorem dX10_broken_122 : decode cX10_broken 122 = .ok (.iload 4, 2) := by decide +kernel
theorem dX10_broken_124 : decode cX10_broken 124 = .ok (.ifCond .eq 8, 3) := by decide +kernel
theorem dX10_broken_127 : decode cX10_broken 127 = .ok (.bipush (-9), 2) := by decide +kernel
theorem dX10_broken_129 : decode cX10_broken 129 = .ok (.goto 12, 3) := by decide +kernel
theorem dX10_broken_132 : decode cX10_broken 132 = .ok (.aload_n 0, 1) := by decide +kernel
theorem dX10_broken_133 : decode cX10_broken 133 = .ok (.getfield 22, 3) := by decide +kernel
theorem dX10_broken_136 : decode cX10_broken 136 = .ok (.bipush 58, 2) := by decide +kernel
theorem dX10_broken_138 : decode cX10_broken 138 = .ok (.iload_n 1, 1) := by decide +kernel
theorem dX10_broken_139 : decode cX10_broken 139 = .ok (.iadd, 1) := by decide +kernel
theorem dX10_broken_140 : decode cX10_broken 140 = .ok (.iaload, 1) := by decide +kernel
theorem dX10_broken_141 : decode cX10_broken 141 = .ok (.ireturn, 1) := by decide +kernel
theorem dX10_broken_142 : decode cX10_broken 142 = .ok (.iload 4, 2) := by decide +kernel
theorem dX10_broken_144 : decode cX10_broken 144 = .ok (.ifCond .eq 8, 3) := by decide +kernel
theorem dX10_broken_147 : decode cX10_broken 147 = .ok (.bipush (-9), 2) := by decide +kernel
theorem dX10_broken_149 : decode cX10_broken 149 = .ok (.goto 12, 3) := by decide +kernel
theorem dX10_broken_152 : decode cX10_broken 152 = .ok (.aload_n 0, 1) := by decide +kernel
theorem dX10_broken_153 : decode cX10_broken 153 = .ok (.getfield 22, 3) := by decide +kernel
theorem dX10_broken_156 : decode cX10_broken 156 = .ok (.bipush 74, 2) := by decide +kernel
theorem dX10_broken_158 : decode cX10_broken 158 = .ok (.iload_n 1, 1) := by decide +kernel
theorem dX10_broken_159 : decode cX10_broken 159 = .ok (.iadd, 1) := by decide +kernel
theorem dX10_broken_160 : decode cX10_broken 160 = .ok (.iaload, 1) := by decide +kernel
theorem dX10_broken_161 : decode cX10_broken 161 = .ok (.ireturn, 1) := by decide +kernel
theorem dX10_broken_162 : decode cX10_broken 162 = .ok (.iload_n 3, 1) := by decide +kernel
theorem dX10_broken_163 : decode cX10_broken 163 = .ok (.ifCond .eq 7, 3) := by decide +kernel
theorem dX10_broken_166 : decode cX10_broken 166 = .ok (.iconst 0, 1) := by decide +kernel
theorem dX10_broken_167 : decode cX10_broken 167 = .ok (.goto 12, 3) := by decide +kernel
theorem dX10_broken_170 : decode cX10_broken 170 = .ok (.aload_n 0, 1) := by decide +kernel
theorem dX10_broken_171 : decode cX10_broken 171 = .ok (.getfield 22, 3) := by decide +kernel
theorem dX10_broken_174 : decode cX10_broken 174 = .ok (.bipush 90, 2) := by decide +kernel
theorem dX10_broken_176 : decode cX10_broken 176 = .ok (.iload_n 1, 1) := by decide +kernel
theorem dX10_broken_177 : decode cX10_broken 177 = .ok (.iadd, 1) := by decide +kernel
theorem dX10_broken_178 : decode cX10_broken 178 = .ok (.iaload, 1) := by decide +kernel
theorem dX10_broken_179 : decode cX10_broken 179 = .ok (.ireturn, 1) := by decide +kernel
theorem dX10_broken_180 : decode cX10_broken 180 = .ok (.iload_n 3, 1) := by decide +kernel
theorem dX10_broken_181 : decode cX10_broken 181 = .ok (.ifCond .eq 7, 3) := by decide +kernel
theorem dX10_broken_184 : decode cX10_broken 184 = .ok (.iconst 0, 1) := by decide +kernel
theorem dX10_broken_185 : decode cX10_broken 185 = .ok (.goto 12, 3) := by decide +kernel
theorem dX10_broken_188 : decode cX10_broken 188 = .ok (.aload_n 0, 1) := by decide +kernel
theorem dX10_broken_189 : decode cX10_broken 189 = .ok (.getfield 22, 3) := by decide +kernel
theorem dX10_broken_192 : decode cX10_broken 192 = .ok (.bipush 106, 2) := by decide +kernel
theorem dX10_broken_194 : decode cX10_broken 194 = .ok (.iload_n 1, 1) := by decide +kernel
theorem dX10_broken_195 : decode cX10_broken 195 = .ok (.iadd, 1) := by decide +kernel
theorem dX10_broken_196 : decode cX10_broken 196 = .ok (.iaload, 1) := by decide +kernel
theorem dX10_broken_197 : decode cX10_broken 197 = .ok (.ireturn, 1) := by decide +kernel
theorem dX10_broken_198 : decode cX10_broken 198 = .ok (.bipush (-2), 2) := by decide +kernel
theorem dX10_broken_200 : decode cX10_broken 200 = .ok (.ireturn, 1) := by decide +kernel
theorem dX10_copy_0 : decode cX10_copy 0 = .ok (.iload_n 1, 1) := by decide +kernel
theorem dX10_copy_1 : decode cX10_copy 1 = .ok (.i2l, 1) := by decide +kernel
theorem dX10_copy_2 : decode cX10_copy 2 = .ok (.lconst 0, 1) := by decide +kernel
theorem dX10_copy_3 : decode cX10_copy 3 = .ok (.aload_n 0, 1) := by decide +kernel
theorem dX10_copy_4 : decode cX10_copy 4 = .ok (.getfield 22, 3) := by decide +kernel
theorem dX10_copy_7 : decode cX10_copy 7 = .ok (.bipush 122, 2) := by decide +kernel
theorem dX10_copy_9 : decode cX10_copy 9 = .ok (.iaload, 1) := by decide +kernel
theorem dX10_copy_10 : decode cX10_copy 10 = .ok (.iconst 1, 1) := by decide +kernel
theorem dX10_copy_11 : decode cX10_copy 11 = .ok (.isub, 1) := by decide +kernel
theorem dX10_copy_12 : decode cX10_copy 12 = .ok (.i2l, 1) := by decide +kernel
theorem dX10_copy_13 : decode cX10_copy 13 = .ok (.invokestatic 73, 3) := by decide +kernel
theorem dX10_copy_16 : decode cX10_copy 16 = .ok (.ifCond .eq 15, 3) := by decide +kernel
theorem dX10_copy_19 : decode cX10_copy 19 = .ok (.aload_n 0, 1) := by decide +kernel
theorem dX10_copy_20 : decode cX10_copy 20 = .ok (.getfield 22, 3) := by decide +kernel
theorem dX10_copy_23 : decode cX10_copy 23 = .ok (.bipush 123, 2) := by decide +kernel
theorem dX10_copy_25 : decode cX10_copy 25 = .ok (.iload_n 1, 1) := by decide +kernel
theorem dX10_copy_26 : decode cX10_copy 26 = .ok (.iadd, 1) := by decide +kernel
theorem dX10_copy_27 : decode cX10_copy 27 = .ok (.iaload, 1) := by decide +kernel
theorem dX10_copy_28 : decode cX10_copy 28 = .ok (.goto 5, 3) := by decide +kernel
theorem dX10_copy_31 : decode cX10_copy 31 = .ok (.bipush (-9), 2) := by decide +kernel
theorem dX10_copy_33 : decode cX10_copy 33 = .ok (.ireturn, 1) := by decide +kernel
theorem dX10_note_0 : decode cX10_note 0 = .ok (.iconst 0, 1) := by decide +kernel
theorem dX10_note_1 : decode cX10_note 1 = .ok (.istore_n 1, 1) := by decide +kernel
theorem dX10_note_2 : decode cX10_note 2 = .ok (.iload_n 1, 1) := by decide +kernel
theorem dX10_note_3 : decode cX10_note 3 = .ok (.sipush 128, 3) := by decide +kernel
theorem dX10_note_6 : decode cX10_note 6 = .ok (.if_icmp .ge 30, 3) := by decide +kernel
theorem dX10_note_9 : decode cX10_note 9 = .ok (.aload_n 0, 1) := by decide +kernel
theorem dX10_note_10 : decode cX10_note 10 = .ok (.getfield 28, 3) := by decide +kernel
theorem dX10_note_13 : decode cX10_note 13 = .ok (.sipush 128, 3) := by decide +kernel
theorem dX10_note_16 : decode cX10_note 16 = .ok (.aload_n 0, 1) := by decide +kernel
theorem dX10_note_17 : decode cX10_note 17 = .ok (.getfield 198, 3) := by decide +kernel
theorem dX10_note_20 : decode cX10_note 20 = .ok (.imul, 1) := by decide +kernel
theorem dX10_note_21 : decode cX10_note 21 = .ok (.iload_n 1, 1) := by decide +kernel
theorem dX10_note_22 : decode cX10_note 22 = .ok (.iadd, 1) := by decide +kernel
theorem dX10_note_23 : decode cX10_note 23 = .ok (.aload_n 0, 1) := by decide +kernel
theorem dX10_note_24 : decode cX10_note 24 = .ok (.getfield 22, 3) := by decide +kernel
theorem dX10_note_27 : decode cX10_note 27 = .ok (.iload_n 1, 1) := by decide +kernel
theorem dX10_note_28 : decode cX10_note 28 = .ok (.iaload, 1) := by decide +kernel
theorem dX10_note_29 : decode cX10_note 29 = .ok (.iastore, 1) := by decide +kernel
theorem dX10_note_30 : decode cX10_note 30 = .ok (.iinc 1 1, 3) := by decide +kernel
theorem dX10_note_33 : decode cX10_note 33 = .ok (.goto (-31), 3) := by decide +kernel
theorem dX10_note_36 : decode cX10_note 36 = .ok (.aload_n 0, 1) := by decide +kernel
theorem dX10_note_37 : decode cX10_note 37 = .ok (.aload_n 0, 1) := by decide +kernel
theorem dX10_note_38 : decode cX10_note 38 = .ok (.getfield 198, 3) := by decide +kernel
theorem dX10_note_41 : decode cX10_note 41 = .ok (.iconst 1, 1) := by decide +kernel
theorem dX10_note_42 : decode cX10_note 42 = .ok (.iadd, 1) := by decide +kernel
theorem dX10_note_43 : decode cX10_note 43 = .ok (.bipush 14, 2) := by decide +kernel
theorem dX10_note_45 : decode cX10_note 45 = .ok (.irem, 1) := by decide +kernel
theorem dX10_note_46 : decode cX10_note 46 = .ok (.putfield 198, 3) := by decide +kernel
theorem dX10_note_49 : decode cX10_note 49 = .ok (.aload_n 0, 1) := by decide +kernel
theorem dX10_note_50 : decode cX10_note 50 = .ok (.aload_n 0, 1) := by decide +kernel
theorem dX10_note_51 : decode cX10_note 51 = .ok (.getfield 132, 3) := by decide +kernel
theorem dX10_note_54 : decode cX10_note 54 = .ok (.bipush 14, 2) := by decide +kernel
theorem dX10_note_56 : decode cX10_note 56 = .ok (.if_icmp .ge 12, 3) := by decide +kernel
theorem dX10_note_59 : decode cX10_note 59 = .ok (.aload_n 0, 1) := by decide +kernel
theorem dX10_note_60 : decode cX10_note 60 = .ok (.getfield 132, 3) := by decide +kernel
theorem dX10_note_63 : decode cX10_note 63 = .ok (.iconst 1, 1) := by decide +kernel
theorem dX10_note_64 : decode cX10_note 64 = .ok (.iadd, 1) := by decide +kernel
theorem dX10_note_65 : decode cX10_note 65 = .ok (.goto 5, 3) := by decide +kernel
theorem dX10_note_68 : decode cX10_note 68 = .ok (.bipush 14, 2) := by decide +kernel
theorem dX10_note_70 : decode cX10_note 70 = .ok (.putfield 132, 3) := by decide +kernel
theorem dX10_note_73 : decode cX10_note 73 = .ok (.return_, 1) := by decide +kernel
theorem dX10_plan_0 : decode cX10_plan 0 = .ok (.iload_n 1, 1) := by decide +kernel
theorem dX10_plan_1 : decode cX10_plan 1 = .ok (.i2l, 1) := by decide +kernel
theorem dX10_plan_2 : decode cX10_plan 2 = .ok (.lconst 0, 1) := by decide +kernel
theorem dX10_plan_3 : decode cX10_plan 3 = .ok (.ldc2_w 107, 3) := by decide +kernel
theorem dX10_plan_6 : decode cX10_plan 6 = .ok (.invokestatic 73, 3) := by decide +kernel
theorem dX10_plan_9 : decode cX10_plan 9 = .ok (.ifCond .ne 6, 3) := by decide +kernel
theorem dX10_plan_12 : decode cX10_plan 12 = .ok (.bipush (-2), 2) := by decide +kernel
theorem dX10_plan_14 : decode cX10_plan 14 = .ok (.ireturn, 1) := by decide +kernel
theorem dX10_plan_15 : decode cX10_plan 15 = .ok (.iload_n 1, 1) := by decide +kernel
theorem dX10_plan_16 : decode cX10_plan 16 = .ok (.iconst 2, 1) := by decide +kernel
theorem dX10_plan_17 : decode cX10_plan 17 = .ok (.if_icmp .ne 16, 3) := by decide +kernel
theorem dX10_plan_20 : decode cX10_plan 20 = .ok (.aload_n 0, 1) := by decide +kernel
theorem dX10_plan_21 : decode cX10_plan 21 = .ok (.getfield 22, 3) := by decide +kernel
theorem dX10_plan_24 : decode cX10_plan 24 = .ok (.bipush 20, 2) := by decide +kernel
theorem dX10_plan_26 : decode cX10_plan 26 = .ok (.iaload, 1) := by decide +kernel
theorem dX10_plan_27 : decode cX10_plan 27 = .ok (.ifCond .ne 6, 3) := by decide +kernel
theorem dX10_plan_30 : decode cX10_plan 30 = .ok (.bipush (-3), 2) := by decide +kernel
theorem dX10_plan_32 : decode cX10_plan 32 = .ok (.ireturn, 1) := by decide +kernel
theorem dX10_plan_33 : decode cX10_plan 33 = .ok (.aload_n 0, 1) := by decide +kernel
theorem dX10_plan_34 : decode cX10_plan 34 = .ok (.invokevirtual 201, 3) := by decide +kernel
theorem dX10_plan_37 : decode cX10_plan 37 = .ok (.aload_n 0, 1) := by decide +kernel
theorem dX10_plan_38 : decode cX10_plan 38 = .ok (.aload_n 0, 1) := by decide +kernel
theorem dX10_plan_39 : decode cX10_plan 39 = .ok (.getfield 22, 3) := by decide +kernel
theorem dX10_plan_42 : decode cX10_plan 42 = .ok (.iload_n 1, 1) := by decide +kernel
theorem dX10_plan_43 : decode cX10_plan 43 = .ok (.invokevirtual 204, 3) := by decide +kernel
theorem dX10_plan_46 : decode cX10_plan 46 = .ok (.ireturn, 1) := by decide +kernel
theorem dX10_tellAt_0 : decode cX10_tellAt 0 = .ok (.aload_n 0, 1) := by decide +kernel
theorem dX10_tellAt_1 : decode cX10_tellAt 1 = .ok (.invokevirtual 201, 3) := by decide +kernel
theorem dX10_tellAt_4 : decode cX10_tellAt 4 = .ok (.aload_n 0, 1) := by decide +kernel
theorem dX10_tellAt_5 : decode cX10_tellAt 5 = .ok (.getfield 22, 3) := by decide +kernel
theorem dX10_tellAt_8 : decode cX10_tellAt 8 = .ok (.iload_n 1, 1) := by decide +kernel
theorem dX10_tellAt_9 : decode cX10_tellAt 9 = .ok (.iaload, 1) := by decide +kernel
theorem dX10_tellAt_10 : decode cX10_tellAt 10 = .ok (.istore_n 3, 1) := by decide +kernel
theorem dX10_tellAt_11 : decode cX10_tellAt 11 = .ok (.aload_n 0, 1) := by decide +kernel
theorem dX10_tellAt_12 : decode cX10_tellAt 12 = .ok (.getfield 22, 3) := by decide +kernel
theorem dX10_tellAt_15 : decode cX10_tellAt 15 = .ok (.iload_n 1, 1) := by decide +kernel
theorem dX10_tellAt_16 : decode cX10_tellAt 16 = .ok (.iload_n 2, 1) := by decide +kernel
theorem dX10_tellAt_17 : decode cX10_tellAt 17 = .ok (.iastore, 1) := by decide +kernel
theorem dX10_tellAt_18 : decode cX10_tellAt 18 = .ok (.iload_n 3, 1) := by decide +kernel
theorem dX10_tellAt_19 : decode cX10_tellAt 19 = .ok (.ireturn, 1) := by decide +kernel
theorem dX10_set_0 : decode cX10_set 0 = .ok (.iload_n 1, 1) := by decide +kernel
theorem dX10_set_1 : decode cX10_set 1 = .ok (.i2l, 1) := by decide +kernel
theorem dX10_set_2 : decode cX10_set 2 = .ok (.lconst 0, 1) := by decide +kernel
theorem dX10_set_3 : decode cX10_set 3 = .ok (.ldc2_w 208, 3) := by decide +kernel
theorem dX10_set_6 : decode cX10_set 6 = .ok (.invokestatic 73, 3) := by decide +kernel
theorem dX10_set_9 : decode cX10_set 9 = .ok (.ifCond .ne 6, 3) := by decide +kernel
theorem dX10_set_12 : decode cX10_set 12 = .ok (.bipush (-2), 2) := by decide +kernel
theorem dX10_set_14 : decode cX10_set 14 = .ok (.ireturn, 1) := by decide +kernel
theorem dX10_set_15 : decode cX10_set 15 = .ok (.iload_n 1, 1) := by decide +kernel
theorem dX10_set_16 : decode cX10_set 16 = .ok (.ifCond .ne 26, 3) := by decide +kernel
theorem dX10_set_19 : decode cX10_set 19 = .ok (.iload_n 2, 1) := by decide +kernel
theorem dX10_set_20 : decode cX10_set 20 = .ok (.i2l, 1) := by decide +kernel
theorem dX10_set_21 : decode cX10_set 21 = .ok (.lconst 0, 1) := by decide +kernel
theorem dX10_set_22 : decode cX10_set 22 = .ok (.ldc2_w 107, 3) := by decide +kernel
theorem dX10_set_25 : decode cX10_set 25 = .ok (.invokestatic 73, 3) := by decide +kernel
theorem dX10_set_28 : decode cX10_set 28 = .ok (.ifCond .eq 12, 3) := by decide +kernel
theorem dX10_set_31 : decode cX10_set 31 = .ok (.aload_n 0, 1) := by decide +kernel
theorem dX10_set_32 : decode cX10_set 32 = .ok (.iload_n 2, 1) := by decide +kernel
theorem dX10_set_33 : decode cX10_set 33 = .ok (.iload_n 3, 1) := by decide +kernel
theorem dX10_set_34 : decode cX10_set 34 = .ok (.invokevirtual 210, 3) := by decide +kernel
theorem dX10_set_37 : decode cX10_set 37 = .ok (.goto 4, 3) := by decide +kernel
theorem dX10_set_40 : decode cX10_set 40 = .ok (.iconst (-1), 1) := by decide +kernel
theorem dX10_set_41 : decode cX10_set 41 = .ok (.ireturn, 1) := by decide +kernel
theorem dX10_set_42 : decode cX10_set 42 = .ok (.iload_n 1, 1) := by decide +kernel
theorem dX10_set_43 : decode cX10_set 43 = .ok (.iconst 1, 1) := by decide +kernel
theorem dX10_set_44 : decode cX10_set 44 = .ok (.if_icmp .ne 28, 3) := by decide +kernel
theorem dX10_set_47 : decode cX10_set 47 = .ok (.iload_n 2, 1) := by decide +kernel
theorem dX10_set_48 : decode cX10_set 48 = .ok (.i2l, 1) := by decide +kernel
theorem dX10_set_49 : decode cX10_set 49 = .ok (.lconst 0, 1) := by decide +kernel
theorem dX10_set_50 : decode cX10_set 50 = .ok (.ldc2_w 120, 3) := by decide +kernel
theorem dX10_set_53 : decode cX10_set 53 = .ok (.invokestatic 73, 3) := by decide +kernel
theorem dX10_set_56 : decode cX10_set 56 = .ok (.ifCond .eq 14, 3) := by decide +kernel
theorem dX10_set_59 : decode cX10_set 59 = .ok (.aload_n 0, 1) := by decide +kernel
theorem dX10_set_60 : decode cX10_set 60 = .ok (.iconst 4, 1) := by decide +kernel
theorem dX10_set_61 : decode cX10_set 61 = .ok (.iload_n 2, 1) := by decide +kernel
theorem dX10_set_62 : decode cX10_set 62 = .ok (.iadd, 1) := by decide +kernel
theorem dX10_set_63 : decode cX10_set 63 = .ok (.iload_n 3, 1) := by decide +kernel
theorem dX10_set_64 : decode cX10_set 64 = .ok (.invokevirtual 210, 3) := by decide +kernel
theorem dX10_set_67 : decode cX10_set 67 = .ok (.goto 4, 3) := by decide +kernel
theorem dX10_set_70 : decode cX10_set 70 = .ok (.iconst (-1), 1) := by decide +kernel
theorem dX10_set_71 : decode cX10_set 71 = .ok (.ireturn, 1) := by decide +kernel
theorem dX10_set_72 : decode cX10_set 72 = .ok (.iload_n 2, 1) := by decide +kernel
theorem dX10_set_73 : decode cX10_set 73 = .ok (.ifCond .ne 11, 3) := by decide +kernel
theorem dX10_set_76 : decode cX10_set 76 = .ok (.aload_n 0, 1) := by decide +kernel
theorem dX10_set_77 : decode cX10_set 77 = .ok (.iload_n 3, 1) := by decide +kernel
theorem dX10_set_78 : decode cX10_set 78 = .ok (.invokevirtual 135, 3) := by decide +kernel
theorem dX10_set_81 : decode cX10_set 81 = .ok (.ifCond .ne 5, 3) := by decide +kernel
theorem dX10_set_84 : decode cX10_set 84 = .ok (.iconst (-1), 1) := by decide +kernel
theorem dX10_set_85 : decode cX10_set 85 = .ok (.ireturn, 1) := by decide +kernel
theorem dX10_set_86 : decode cX10_set 86 = .ok (.aload_n 0, 1) := by decide +kernel
theorem dX10_set_87 : decode cX10_set 87 = .ok (.bipush 21, 2) := by decide +kernel
theorem dX10_set_89 : decode cX10_set 89 = .ok (.iload_n 3, 1) := by decide +kernel
theorem dX10_set_90 : decode cX10_set 90 = .ok (.invokevirtual 210, 3) := by decide +kernel
theorem dX10_set_93 : decode cX10_set 93 = .ok (.istore 4, 2) := by decide +kernel
theorem dX10_set_95 : decode cX10_set 95 = .ok (.aload_n 0, 1) := by decide +kernel
theorem dX10_set_96 : decode cX10_set 96 = .ok (.getfield 22, 3) := by decide +kernel
theorem dX10_set_99 : decode cX10_set 99 = .ok (.bipush 22, 2) := by decide +kernel
theorem dX10_set_101 : decode cX10_set 101 = .ok (.iconst 0, 1) := by decide +kernel
theorem dX10_set_102 : decode cX10_set 102 = .ok (.iastore, 1) := by decide +kernel
theorem dX10_set_103 : decode cX10_set 103 = .ok (.iload 4, 2) := by decide +kernel
theorem dX10_set_105 : decode cX10_set 105 = .ok (.ireturn, 1) := by decide +kernel
theorem dX10_breakOn_0 : decode cX10_breakOn 0 = .ok (.aload_n 0, 1) := by decide +kernel
theorem dX10_breakOn_1 : decode cX10_breakOn 1 = .ok (.bipush 106, 2) := by decide +kernel
theorem dX10_breakOn_3 : decode cX10_breakOn 3 = .ok (.iload_n 1, 1) := by decide +kernel
theorem dX10_breakOn_4 : decode cX10_breakOn 4 = .ok (.iadd, 1) := by decide +kernel
theorem dX10_breakOn_5 : decode cX10_breakOn 5 = .ok (.aload_n 0, 1) := by decide +kernel
theorem dX10_breakOn_6 : decode cX10_breakOn 6 = .ok (.bipush 26, 2) := by decide +kernel
theorem dX10_breakOn_8 : decode cX10_breakOn 8 = .ok (.iload_n 1, 1) := by decide +kernel
theorem dX10_breakOn_9 : decode cX10_breakOn 9 = .ok (.iadd, 1) := by decide +kernel
theorem dX10_breakOn_10 : decode cX10_breakOn 10 = .ok (.iaload, 1) := by decide +kernel
theorem dX10_breakOn_11 : decode cX10_breakOn 11 = .ok (.ifCond .le 12, 3) := by decide +kernel
theorem dX10_breakOn_14 : decode cX10_breakOn 14 = .ok (.aload_n 0, 1) := by decide +kernel
theorem dX10_breakOn_15 : decode cX10_breakOn 15 = .ok (.bipush 106, 2) := by decide +kernel
theorem dX10_breakOn_17 : decode cX10_breakOn 17 = .ok (.iload_n 1, 1) := by decide +kernel
theorem dX10_breakOn_18 : decode cX10_breakOn 18 = .ok (.iadd, 1) := by decide +kernel
theorem dX10_breakOn_19 : decode cX10_breakOn 19 = .ok (.iaload, 1) := by decide +kernel
theorem dX10_breakOn_20 : decode cX10_breakOn 20 = .ok (.goto 4, 3) := by decide +kernel
theorem dX10_breakOn_23 : decode cX10_breakOn 23 = .ok (.iconst 0, 1) := by decide +kernel
theorem dX10_breakOn_24 : decode cX10_breakOn 24 = .ok (.iastore, 1) := by decide +kernel
theorem dX10_breakOn_25 : decode cX10_breakOn 25 = .ok (.aload_n 0, 1) := by decide +kernel
theorem dX10_breakOn_26 : decode cX10_breakOn 26 = .ok (.bipush 26, 2) := by decide +kernel
theorem dX10_breakOn_28 : decode cX10_breakOn 28 = .ok (.iload_n 1, 1) := by decide +kernel
theorem dX10_breakOn_29 : decode cX10_breakOn 29 = .ok (.iadd, 1) := by decide +kernel
theorem dX10_breakOn_30 : decode cX10_breakOn 30 = .ok (.dup2, 1) := by decide +kernel
theorem dX10_breakOn_31 : decode cX10_breakOn 31 = .ok (.iaload, 1) := by decide +kernel
theorem dX10_breakOn_32 : decode cX10_breakOn 32 = .ok (.iconst 1, 1) := by decide +kernel
theorem dX10_breakOn_33 : decode cX10_breakOn 33 = .ok (.iadd, 1) := by decide +kernel
theorem dX10_breakOn_34 : decode cX10_breakOn 34 = .ok (.iastore, 1) := by decide +kernel
theorem dX10_breakOn_35 : decode cX10_breakOn 35 = .ok (.aload_n 0, 1) := by decide +kernel
theorem dX10_breakOn_36 : decode cX10_breakOn 36 = .ok (.bipush 42, 2) := by decide +kernel
theorem dX10_breakOn_38 : decode cX10_breakOn 38 = .ok (.iload_n 1, 1) := by decide +kernel
theorem dX10_breakOn_39 : decode cX10_breakOn 39 = .ok (.iadd, 1) := by decide +kernel
theorem dX10_breakOn_40 : decode cX10_breakOn 40 = .ok (.iload_n 2, 1) := by decide +kernel
theorem dX10_breakOn_41 : decode cX10_breakOn 41 = .ok (.iastore, 1) := by decide +kernel
theorem dX10_breakOn_42 : decode cX10_breakOn 42 = .ok (.aload_n 0, 1) := by decide +kernel
theorem dX10_breakOn_43 : decode cX10_breakOn 43 = .ok (.bipush 58, 2) := by decide +kernel
theorem dX10_breakOn_45 : decode cX10_breakOn 45 = .ok (.iload_n 1, 1) := by decide +kernel
theorem dX10_breakOn_46 : decode cX10_breakOn 46 = .ok (.iadd, 1) := by decide +kernel
theorem dX10_breakOn_47 : decode cX10_breakOn 47 = .ok (.iload_n 3, 1) := by decide +kernel
theorem dX10_breakOn_48 : decode cX10_breakOn 48 = .ok (.iastore, 1) := by decide +kernel
theorem dX10_breakOn_49 : decode cX10_breakOn 49 = .ok (.aload_n 0, 1) := by decide +kernel
theorem dX10_breakOn_50 : decode cX10_breakOn 50 = .ok (.bipush 74, 2) := by decide +kernel
theorem dX10_breakOn_52 : decode cX10_breakOn 52 = .ok (.iload_n 1, 1) := by decide +kernel
theorem dX10_breakOn_53 : decode cX10_breakOn 53 = .ok (.iadd, 1) := by decide +kernel
theorem dX10_breakOn_54 : decode cX10_breakOn 54 = .ok (.iload 4, 2) := by decide +kernel
theorem dX10_breakOn_56 : decode cX10_breakOn 56 = .ok (.iastore, 1) := by decide +kernel
theorem dX10_breakOn_57 : decode cX10_breakOn 57 = .ok (.aload_n 0, 1) := by decide +kernel
theorem dX10_breakOn_58 : decode cX10_breakOn 58 = .ok (.bipush 90, 2) := by decide +kernel
theorem dX10_breakOn_60 : decode cX10_breakOn 60 = .ok (.iload_n 1, 1) := by decide +kernel
theorem dX10_breakOn_61 : decode cX10_breakOn 61 = .ok (.iadd, 1) := by decide +kernel
theorem dX10_breakOn_62 : decode cX10_breakOn 62 = .ok (.iload 5, 2) := by decide +kernel
theorem dX10_breakOn_64 : decode cX10_breakOn 64 = .ok (.iastore, 1) := by decide +kernel
theorem dX10_breakOn_65 : decode cX10_breakOn 65 = .ok (.return_, 1) := by decide +kernel
theorem dX10_smash_0 : decode cX10_smash 0 = .ok (.aload_n 0, 1) := by decide +kernel
theorem dX10_smash_1 : decode cX10_smash 1 = .ok (.iload_n 1, 1) := by decide +kernel
theorem dX10_smash_2 : decode cX10_smash 2 = .ok (.invokevirtual 135, 3) := by decide +kernel
theorem dX10_smash_5 : decode cX10_smash 5 = .ok (.ifCond .ne 5, 3) := by decide +kernel
theorem dX10_smash_8 : decode cX10_smash 8 = .ok (.iconst (-1), 1) := by decide +kernel
theorem dX10_smash_9 : decode cX10_smash 9 = .ok (.ireturn, 1) := by decide +kernel
theorem dX10_smash_10 : decode cX10_smash 10 = .ok (.iload_n 2, 1) := by decide +kernel
theorem dX10_smash_11 : decode cX10_smash 11 = .ok (.i2l, 1) := by decide +kernel
theorem dX10_smash_12 : decode cX10_smash 12 = .ok (.lconst 0, 1) := by decide +kernel
theorem dX10_smash_13 : decode cX10_smash 13 = .ok (.ldc2_w 107, 3) := by decide +kernel
theorem dX10_smash_16 : decode cX10_smash 16 = .ok (.invokestatic 73, 3) := by decide +kernel
theorem dX10_smash_19 : decode cX10_smash 19 = .ok (.ifCond .eq 32, 3) := by decide +kernel
theorem dX10_smash_22 : decode cX10_smash 22 = .ok (.iload_n 3, 1) := by decide +kernel
theorem dX10_smash_23 : decode cX10_smash 23 = .ok (.i2l, 1) := by decide +kernel
theorem dX10_smash_24 : decode cX10_smash 24 = .ok (.lconst 0, 1) := by decide +kernel
theorem dX10_smash_25 : decode cX10_smash 25 = .ok (.ldc2_w 208, 3) := by decide +kernel
theorem dX10_smash_28 : decode cX10_smash 28 = .ok (.invokestatic 73, 3) := by decide +kernel
theorem dX10_smash_31 : decode cX10_smash 31 = .ok (.ifCond .eq 20, 3) := by decide +kernel
theorem dX10_smash_34 : decode cX10_smash 34 = .ok (.iload 4, 2) := by decide +kernel
theorem dX10_smash_36 : decode cX10_smash 36 = .ok (.i2l, 1) := by decide +kernel
theorem dX10_smash_37 : decode cX10_smash 37 = .ok (.lconst 0, 1) := by decide +kernel
theorem dX10_smash_38 : decode cX10_smash 38 = .ok (.ldc2_w 103, 3) := by decide +kernel
theorem dX10_smash_41 : decode cX10_smash 41 = .ok (.invokestatic 73, 3) := by decide +kernel
theorem dX10_smash_44 : decode cX10_smash 44 = .ok (.ifCond .eq 7, 3) := by decide +kernel
theorem dX10_smash_47 : decode cX10_smash 47 = .ok (.iconst 1, 1) := by decide +kernel
theorem dX10_smash_48 : decode cX10_smash 48 = .ok (.goto 4, 3) := by decide +kernel
theorem dX10_smash_51 : decode cX10_smash 51 = .ok (.iconst 0, 1) := by decide +kernel
theorem dX10_smash_52 : decode cX10_smash 52 = .ok (.istore 6, 2) := by decide +kernel
theorem dX10_smash_54 : decode cX10_smash 54 = .ok (.iload_n 2, 1) := by decide +kernel
theorem dX10_smash_55 : decode cX10_smash 55 = .ok (.bipush (-9), 2) := by decide +kernel
theorem dX10_smash_57 : decode cX10_smash 57 = .ok (.if_icmp .eq 8, 3) := by decide +kernel
theorem dX10_smash_60 : decode cX10_smash 60 = .ok (.iload 6, 2) := by decide +kernel
theorem dX10_smash_62 : decode cX10_smash 62 = .ok (.ifCond .eq 16, 3) := by decide +kernel
theorem dX10_smash_65 : decode cX10_smash 65 = .ok (.iload 5, 2) := by decide +kernel
theorem dX10_smash_67 : decode cX10_smash 67 = .ok (.i2l, 1) := by decide +kernel
theorem dX10_smash_68 : decode cX10_smash 68 = .ok (.lconst 0, 1) := by decide +kernel
theorem dX10_smash_69 : decode cX10_smash 69 = .ok (.ldc2_w 103, 3) := by decide +kernel
theorem dX10_smash_72 : decode cX10_smash 72 = .ok (.invokestatic 73, 3) := by decide +kernel
theorem dX10_smash_75 : decode cX10_smash 75 = .ok (.ifCond .ne 6, 3) := by decide +kernel
theorem dX10_smash_78 : decode cX10_smash 78 = .ok (.bipush (-2), 2) := by decide +kernel
theorem dX10_smash_80 : decode cX10_smash 80 = .ok (.ireturn, 1) := by decide +kernel
theorem dX10_smash_81 : decode cX10_smash 81 = .ok (.aload_n 0, 1) := by decide +kernel
theorem dX10_smash_82 : decode cX10_smash 82 = .ok (.getfield 22, 3) := by decide +kernel
theorem dX10_smash_85 : decode cX10_smash 85 = .ok (.bipush 26, 2) := by decide +kernel
theorem dX10_smash_87 : decode cX10_smash 87 = .ok (.iload_n 1, 1) := by decide +kernel
theorem dX10_smash_88 : decode cX10_smash 88 = .ok (.iadd, 1) := by decide +kernel
theorem dX10_smash_89 : decode cX10_smash 89 = .ok (.iaload, 1) := by decide +kernel
theorem dX10_smash_90 : decode cX10_smash 90 = .ok (.iconst 3, 1) := by decide +kernel
theorem dX10_smash_91 : decode cX10_smash 91 = .ok (.if_icmp .ne 6, 3) := by decide +kernel
theorem dX10_smash_94 : decode cX10_smash 94 = .ok (.bipush (-4), 2) := by decide +kernel
theorem dX10_smash_96 : decode cX10_smash 96 = .ok (.ireturn, 1) := by decide +kernel
theorem dX10_smash_97 : decode cX10_smash 97 = .ok (.aload_n 0, 1) := by decide +kernel
theorem dX10_smash_98 : decode cX10_smash 98 = .ok (.invokevirtual 201, 3) := by decide +kernel
theorem dX10_smash_101 : decode cX10_smash 101 = .ok (.aload_n 0, 1) := by decide +kernel
theorem dX10_smash_102 : decode cX10_smash 102 = .ok (.getfield 22, 3) := by decide +kernel
theorem dX10_smash_105 : decode cX10_smash 105 = .ok (.iload_n 1, 1) := by decide +kernel
theorem dX10_smash_106 : decode cX10_smash 106 = .ok (.iload_n 2, 1) := by decide +kernel
theorem dX10_smash_107 : decode cX10_smash 107 = .ok (.iload_n 3, 1) := by decide +kernel
theorem dX10_smash_108 : decode cX10_smash 108 = .ok (.iload 4, 2) := by decide +kernel
theorem dX10_smash_110 : decode cX10_smash 110 = .ok (.iload 5, 2) := by decide +kernel
theorem dX10_smash_112 : decode cX10_smash 112 = .ok (.invokestatic 214, 3) := by decide +kernel
theorem dX10_smash_115 : decode cX10_smash 115 = .ok (.aload_n 0, 1) := by decide +kernel
theorem dX10_smash_116 : decode cX10_smash 116 = .ok (.getfield 22, 3) := by decide +kernel
theorem dX10_smash_119 : decode cX10_smash 119 = .ok (.bipush 26, 2) := by decide +kernel
theorem dX10_smash_121 : decode cX10_smash 121 = .ok (.iload_n 1, 1) := by decide +kernel
theorem dX10_smash_122 : decode cX10_smash 122 = .ok (.iadd, 1) := by decide +kernel
theorem dX10_smash_123 : decode cX10_smash 123 = .ok (.iaload, 1) := by decide +kernel
theorem dX10_smash_124 : decode cX10_smash 124 = .ok (.ireturn, 1) := by decide +kernel
theorem dX10_lift_0 : decode cX10_lift 0 = .ok (.aload_n 0, 1) := by decide +kernel
theorem dX10_lift_1 : decode cX10_lift 1 = .ok (.iload_n 1, 1) := by decide +kernel
theorem dX10_lift_2 : decode cX10_lift 2 = .ok (.invokevirtual 135, 3) := by decide +kernel
theorem dX10_lift_5 : decode cX10_lift 5 = .ok (.ifCond .ne 5, 3) := by decide +kernel
theorem dX10_lift_8 : decode cX10_lift 8 = .ok (.iconst (-1), 1) := by decide +kernel
theorem dX10_lift_9 : decode cX10_lift 9 = .ok (.ireturn, 1) := by decide +kernel
theorem dX10_lift_10 : decode cX10_lift 10 = .ok (.aload_n 0, 1) := by decide +kernel
theorem dX10_lift_11 : decode cX10_lift 11 = .ok (.getfield 22, 3) := by decide +kernel
theorem dX10_lift_14 : decode cX10_lift 14 = .ok (.bipush 26, 2) := by decide +kernel
theorem dX10_lift_16 : decode cX10_lift 16 = .ok (.iload_n 1, 1) := by decide +kernel
theorem dX10_lift_17 : decode cX10_lift 17 = .ok (.iadd, 1) := by decide +kernel
theorem dX10_lift_18 : decode cX10_lift 18 = .ok (.iaload, 1) := by decide +kernel
theorem dX10_lift_19 : decode cX10_lift 19 = .ok (.ifCond .ne 6, 3) := by decide +kernel
theorem dX10_lift_22 : decode cX10_lift 22 = .ok (.bipush (-3), 2) := by decide +kernel
theorem dX10_lift_24 : decode cX10_lift 24 = .ok (.ireturn, 1) := by decide +kernel
theorem dX10_lift_25 : decode cX10_lift 25 = .ok (.aload_n 0, 1) := by decide +kernel
theorem dX10_lift_26 : decode cX10_lift 26 = .ok (.invokevirtual 201, 3) := by decide +kernel
theorem dX10_lift_29 : decode cX10_lift 29 = .ok (.aload_n 0, 1) := by decide +kernel
theorem dX10_lift_30 : decode cX10_lift 30 = .ok (.getfield 22, 3) := by decide +kernel
theorem dX10_lift_33 : decode cX10_lift 33 = .ok (.bipush 26, 2) := by decide +kernel
theorem dX10_lift_35 : decode cX10_lift 35 = .ok (.iload_n 1, 1) := by decide +kernel
theorem dX10_lift_36 : decode cX10_lift 36 = .ok (.iadd, 1) := by decide +kernel
theorem dX10_lift_37 : decode cX10_lift 37 = .ok (.dup2, 1) := by decide +kernel
theorem dX10_lift_38 : decode cX10_lift 38 = .ok (.iaload, 1) := by decide +kernel
theorem dX10_lift_39 : decode cX10_lift 39 = .ok (.iconst 1, 1) := by decide +kernel
theorem dX10_lift_40 : decode cX10_lift 40 = .ok (.isub, 1) := by decide +kernel
theorem dX10_lift_41 : decode cX10_lift 41 = .ok (.iastore, 1) := by decide +kernel
theorem dX10_lift_42 : decode cX10_lift 42 = .ok (.aload_n 0, 1) := by decide +kernel
theorem dX10_lift_43 : decode cX10_lift 43 = .ok (.getfield 22, 3) := by decide +kernel
theorem dX10_lift_46 : decode cX10_lift 46 = .ok (.bipush 26, 2) := by decide +kernel
theorem dX10_lift_48 : decode cX10_lift 48 = .ok (.iload_n 1, 1) := by decide +kernel
theorem dX10_lift_49 : decode cX10_lift 49 = .ok (.iadd, 1) := by decide +kernel
theorem dX10_lift_50 : decode cX10_lift 50 = .ok (.iaload, 1) := by decide +kernel
theorem dX10_lift_51 : decode cX10_lift 51 = .ok (.ireturn, 1) := by decide +kernel
theorem dX10_watch_0 : decode cX10_watch 0 = .ok (.iload_n 1, 1) := by decide +kernel
theorem dX10_watch_1 : decode cX10_watch 1 = .ok (.i2l, 1) := by decide +kernel
theorem dX10_watch_2 : decode cX10_watch 2 = .ok (.lconst 0, 1) := by decide +kernel
theorem dX10_watch_3 : decode cX10_watch 3 = .ok (.ldc2_w 120, 3) := by decide +kernel
theorem dX10_watch_6 : decode cX10_watch 6 = .ok (.invokestatic 73, 3) := by decide +kernel
theorem dX10_watch_9 : decode cX10_watch 9 = .ok (.ifCond .ne 5, 3) := by decide +kernel
theorem dX10_watch_12 : decode cX10_watch 12 = .ok (.iconst (-1), 1) := by decide +kernel
theorem dX10_watch_13 : decode cX10_watch 13 = .ok (.ireturn, 1) := by decide +kernel
theorem dX10_watch_14 : decode cX10_watch 14 = .ok (.aload_n 0, 1) := by decide +kernel
theorem dX10_watch_15 : decode cX10_watch 15 = .ok (.invokevirtual 201, 3) := by decide +kernel
theorem dX10_watch_18 : decode cX10_watch 18 = .ok (.aload_n 0, 1) := by decide +kernel
theorem dX10_watch_19 : decode cX10_watch 19 = .ok (.getfield 22, 3) := by decide +kernel
theorem dX10_watch_22 : decode cX10_watch 22 = .ok (.bipush 25, 2) := by decide +kernel
theorem dX10_watch_24 : decode cX10_watch 24 = .ok (.dup2, 1) := by decide +kernel
theorem dX10_watch_25 : decode cX10_watch 25 = .ok (.iaload, 1) := by decide +kernel
theorem dX10_watch_26 : decode cX10_watch 26 = .ok (.iconst 1, 1) := by decide +kernel
theorem dX10_watch_27 : decode cX10_watch 27 = .ok (.iload_n 1, 1) := by decide +kernel
theorem dX10_watch_28 : decode cX10_watch 28 = .ok (.ishl, 1) := by decide +kernel
theorem dX10_watch_29 : decode cX10_watch 29 = .ok (.ixor, 1) := by decide +kernel
theorem dX10_watch_30 : decode cX10_watch 30 = .ok (.iastore, 1) := by decide +kernel
theorem dX10_watch_31 : decode cX10_watch 31 = .ok (.aload_n 0, 1) := by decide +kernel
theorem dX10_watch_32 : decode cX10_watch 32 = .ok (.getfield 22, 3) := by decide +kernel
theorem dX10_watch_35 : decode cX10_watch 35 = .ok (.bipush 25, 2) := by decide +kernel
theorem dX10_watch_37 : decode cX10_watch 37 = .ok (.iaload, 1) := by decide +kernel
theorem dX10_watch_38 : decode cX10_watch 38 = .ok (.iload_n 1, 1) := by decide +kernel
theorem dX10_watch_39 : decode cX10_watch 39 = .ok (.ishr, 1) := by decide +kernel
theorem dX10_watch_40 : decode cX10_watch 40 = .ok (.iconst 1, 1) := by decide +kernel
theorem dX10_watch_41 : decode cX10_watch 41 = .ok (.iand, 1) := by decide +kernel
theorem dX10_watch_42 : decode cX10_watch 42 = .ok (.ireturn, 1) := by decide +kernel
theorem dX10_undo_0 : decode cX10_undo 0 = .ok (.aload_n 0, 1) := by decide +kernel
theorem dX10_undo_1 : decode cX10_undo 1 = .ok (.getfield 132, 3) := by decide +kernel
theorem dX10_undo_4 : decode cX10_undo 4 = .ok (.ifCond .ne 6, 3) := by decide +kernel
theorem dX10_undo_7 : decode cX10_undo 7 = .ok (.bipush (-3), 2) := by decide +kernel
theorem dX10_undo_9 : decode cX10_undo 9 = .ok (.ireturn, 1) := by decide +kernel
theorem dX10_undo_10 : decode cX10_undo 10 = .ok (.aload_n 0, 1) := by decide +kernel
theorem dX10_undo_11 : decode cX10_undo 11 = .ok (.dup, 1) := by decide +kernel
theorem dX10_undo_12 : decode cX10_undo 12 = .ok (.getfield 132, 3) := by decide +kernel
theorem dX10_undo_15 : decode cX10_undo 15 = .ok (.iconst 1, 1) := by decide +kernel
theorem dX10_undo_16 : decode cX10_undo 16 = .ok (.isub, 1) := by decide +kernel
theorem dX10_undo_17 : decode cX10_undo 17 = .ok (.putfield 132, 3) := by decide +kernel
theorem dX10_undo_20 : decode cX10_undo 20 = .ok (.aload_n 0, 1) := by decide +kernel
theorem dX10_undo_21 : decode cX10_undo 21 = .ok (.aload_n 0, 1) := by decide +kernel
theorem dX10_undo_22 : decode cX10_undo 22 = .ok (.getfield 198, 3) := by decide +kernel
theorem dX10_undo_25 : decode cX10_undo 25 = .ok (.bipush 14, 2) := by decide +kernel
theorem dX10_undo_27 : decode cX10_undo 27 = .ok (.iadd, 1) := by decide +kernel
theorem dX10_undo_28 : decode cX10_undo 28 = .ok (.iconst 1, 1) := by decide +kernel
theorem dX10_undo_29 : decode cX10_undo 29 = .ok (.isub, 1) := by decide +kernel
theorem dX10_undo_30 : decode cX10_undo 30 = .ok (.bipush 14, 2) := by decide +kernel
theorem dX10_undo_32 : decode cX10_undo 32 = .ok (.irem, 1) := by decide +kernel
theorem dX10_undo_33 : decode cX10_undo 33 = .ok (.putfield 198, 3) := by decide +kernel
theorem dX10_undo_36 : decode cX10_undo 36 = .ok (.iconst 0, 1) := by decide +kernel
theorem dX10_undo_37 : decode cX10_undo 37 = .ok (.istore_n 1, 1) := by decide +kernel
theorem dX10_undo_38 : decode cX10_undo 38 = .ok (.iload_n 1, 1) := by decide +kernel
theorem dX10_undo_39 : decode cX10_undo 39 = .ok (.sipush 128, 3) := by decide +kernel
theorem dX10_undo_42 : decode cX10_undo 42 = .ok (.if_icmp .ge 30, 3) := by decide +kernel
theorem dX10_undo_45 : decode cX10_undo 45 = .ok (.aload_n 0, 1) := by decide +kernel
theorem dX10_undo_46 : decode cX10_undo 46 = .ok (.getfield 22, 3) := by decide +kernel
theorem dX10_undo_49 : decode cX10_undo 49 = .ok (.iload_n 1, 1) := by decide +kernel
theorem dX10_undo_50 : decode cX10_undo 50 = .ok (.aload_n 0, 1) := by decide +kernel
theorem dX10_undo_51 : decode cX10_undo 51 = .ok (.getfield 28, 3) := by decide +kernel
theorem dX10_undo_54 : decode cX10_undo 54 = .ok (.sipush 128, 3) := by decide +kernel
theorem dX10_undo_57 : decode cX10_undo 57 = .ok (.aload_n 0, 1) := by decide +kernel
theorem dX10_undo_58 : decode cX10_undo 58 = .ok (.getfield 198, 3) := by decide +kernel
theorem dX10_undo_61 : decode cX10_undo 61 = .ok (.imul, 1) := by decide +kernel
theorem dX10_undo_62 : decode cX10_undo 62 = .ok (.iload_n 1, 1) := by decide +kernel
theorem dX10_undo_63 : decode cX10_undo 63 = .ok (.iadd, 1) := by decide +kernel
theorem dX10_undo_64 : decode cX10_undo 64 = .ok (.iaload, 1) := by decide +kernel
theorem dX10_undo_65 : decode cX10_undo 65 = .ok (.iastore, 1) := by decide +kernel
theorem dX10_undo_66 : decode cX10_undo 66 = .ok (.iinc 1 1, 3) := by decide +kernel
theorem dX10_undo_69 : decode cX10_undo 69 = .ok (.goto (-31), 3) := by decide +kernel
theorem dX10_undo_72 : decode cX10_undo 72 = .ok (.aload_n 0, 1) := by decide +kernel
theorem dX10_undo_73 : decode cX10_undo 73 = .ok (.getfield 132, 3) := by decide +kernel
theorem dX10_undo_76 : decode cX10_undo 76 = .ok (.ireturn, 1) := by decide +kernel
theorem dX10_aside_0 : decode cX10_aside 0 = .ok (.aload_n 0, 1) := by decide +kernel
theorem dX10_aside_1 : decode cX10_aside 1 = .ok (.iload_n 1, 1) := by decide +kernel
theorem dX10_aside_2 : decode cX10_aside 2 = .ok (.invokevirtual 135, 3) := by decide +kernel
theorem dX10_aside_5 : decode cX10_aside 5 = .ok (.ifCond .ne 5, 3) := by decide +kernel
theorem dX10_aside_8 : decode cX10_aside 8 = .ok (.iconst (-1), 1) := by decide +kernel
theorem dX10_aside_9 : decode cX10_aside 9 = .ok (.ireturn, 1) := by decide +kernel
theorem dX10_aside_10 : decode cX10_aside 10 = .ok (.aload_n 0, 1) := by decide +kernel
theorem dX10_aside_11 : decode cX10_aside 11 = .ok (.getfield 13, 3) := by decide +kernel
theorem dX10_aside_14 : decode cX10_aside 14 = .ok (.iload_n 1, 1) := by decide +kernel
theorem dX10_aside_15 : decode cX10_aside 15 = .ok (.iaload, 1) := by decide +kernel
theorem dX10_aside_16 : decode cX10_aside 16 = .ok (.istore_n 3, 1) := by decide +kernel
theorem dX10_aside_17 : decode cX10_aside 17 = .ok (.aload_n 0, 1) := by decide +kernel
theorem dX10_aside_18 : decode cX10_aside 18 = .ok (.getfield 22, 3) := by decide +kernel
theorem dX10_aside_21 : decode cX10_aside 21 = .ok (.aload_n 0, 1) := by decide +kernel
theorem dX10_aside_22 : decode cX10_aside 22 = .ok (.getfield 25, 3) := by decide +kernel
theorem dX10_aside_25 : decode cX10_aside 25 = .ok (.invokestatic 218, 3) := by decide +kernel
theorem dX10_aside_28 : decode cX10_aside 28 = .ok (.aload_n 0, 1) := by decide +kernel
theorem dX10_aside_29 : decode cX10_aside 29 = .ok (.aload_n 0, 1) := by decide +kernel
theorem dX10_aside_30 : decode cX10_aside 30 = .ok (.getfield 25, 3) := by decide +kernel
theorem dX10_aside_33 : decode cX10_aside 33 = .ok (.iload_n 1, 1) := by decide +kernel
theorem dX10_aside_34 : decode cX10_aside 34 = .ok (.invokevirtual 138, 3) := by decide +kernel
theorem dX10_aside_37 : decode cX10_aside 37 = .ok (.istore 4, 2) := by decide +kernel
theorem dX10_aside_39 : decode cX10_aside 39 = .ok (.iload_n 2, 1) := by decide +kernel
theorem dX10_aside_40 : decode cX10_aside 40 = .ok (.tableswitch 125 0 3 #[32, 54, 73, 87], 32) := by decide +kernel
theorem dX10_aside_72 : decode cX10_aside 72 = .ok (.iload 4, 2) := by decide +kernel
theorem dX10_aside_74 : decode cX10_aside 74 = .ok (.ifCond .eq 8, 3) := by decide +kernel
theorem dX10_aside_77 : decode cX10_aside 77 = .ok (.bipush (-9), 2) := by decide +kernel
theorem dX10_aside_79 : decode cX10_aside 79 = .ok (.goto 14, 3) := by decide +kernel
theorem dX10_aside_82 : decode cX10_aside 82 = .ok (.aload_n 0, 1) := by decide +kernel
theorem dX10_aside_83 : decode cX10_aside 83 = .ok (.aload_n 0, 1) := by decide +kernel
theorem dX10_aside_84 : decode cX10_aside 84 = .ok (.getfield 25, 3) := by decide +kernel
theorem dX10_aside_87 : decode cX10_aside 87 = .ok (.iload_n 1, 1) := by decide +kernel
theorem dX10_aside_88 : decode cX10_aside 88 = .ok (.bipush 20, 2) := by decide +kernel
theorem dX10_aside_90 : decode cX10_aside 90 = .ok (.invokevirtual 142, 3) := by decide +kernel
theorem dX10_aside_93 : decode cX10_aside 93 = .ok (.ireturn, 1) := by decide +kernel
theorem dX10_aside_94 : decode cX10_aside 94 = .ok (.iload_n 3, 1) := by decide +kernel
theorem dX10_aside_95 : decode cX10_aside 95 = .ok (.bipush 7, 2) := by decide +kernel
theorem dX10_aside_97 : decode cX10_aside 97 = .ok (.if_icmp .ne 13, 3) := by decide +kernel
theorem dX10_aside_100 : decode cX10_aside 100 = .ok (.iload 4, 2) := by decide +kernel
theorem dX10_aside_102 : decode cX10_aside 102 = .ok (.ifCond .ne 8, 3) := by decide +kernel
theorem dX10_aside_105 : decode cX10_aside 105 = .ok (.bipush 21, 2) := by decide +kernel
theorem dX10_aside_107 : decode cX10_aside 107 = .ok (.goto 5, 3) := by decide +kernel
theorem dX10_aside_110 : decode cX10_aside 110 = .ok (.bipush (-9), 2) := by decide +kernel
theorem dX10_aside_112 : decode cX10_aside 112 = .ok (.ireturn, 1) := by decide +kernel
theorem dX10_aside_113 : decode cX10_aside 113 = .ok (.iload_n 3, 1) := by decide +kernel
theorem dX10_aside_114 : decode cX10_aside 114 = .ok (.bipush 9, 2) := by decide +kernel
theorem dX10_aside_116 : decode cX10_aside 116 = .ok (.if_icmp .ne 8, 3) := by decide +kernel
theorem dX10_aside_119 : decode cX10_aside 119 = .ok (.bipush 21, 2) := by decide +kernel
theorem dX10_aside_121 : decode cX10_aside 121 = .ok (.goto 5, 3) := by decide +kernel
theorem dX10_aside_124 : decode cX10_aside 124 = .ok (.bipush (-9), 2) := by decide +kernel
theorem dX10_aside_126 : decode cX10_aside 126 = .ok (.ireturn, 1) := by decide +kernel
theorem dX10_aside_127 : decode cX10_aside 127 = .ok (.iload_n 3, 1) := by decide +kernel
theorem dX10_aside_128 : decode cX10_aside 128 = .ok (.bipush 7, 2) := by decide +kernel
theorem dX10_aside_130 : decode cX10_aside 130 = .ok (.if_icmp .ne 7, 3) := by decide +kernel
theorem dX10_aside_133 : decode cX10_aside 133 = .ok (.iconst 2, 1) := by decide +kernel
theorem dX10_aside_134 : decode cX10_aside 134 = .ok (.goto 30, 3) := by decide +kernel
theorem dX10_aside_137 : decode cX10_aside 137 = .ok (.iload_n 3, 1) := by decide +kernel
theorem dX10_aside_138 : decode cX10_aside 138 = .ok (.bipush 8, 2) := by decide +kernel
theorem dX10_aside_140 : decode cX10_aside 140 = .ok (.if_icmp .eq 9, 3) := by decide +kernel
theorem dX10_aside_143 : decode cX10_aside 143 = .ok (.iload_n 3, 1) := by decide +kernel
theorem dX10_aside_144 : decode cX10_aside 144 = .ok (.bipush 11, 2) := by decide +kernel
theorem dX10_aside_146 : decode cX10_aside 146 = .ok (.if_icmp .ne 7, 3) := by decide +kernel
theorem dX10_aside_149 : decode cX10_aside 149 = .ok (.iconst 0, 1) := by decide +kernel
theorem dX10_aside_150 : decode cX10_aside 150 = .ok (.goto 14, 3) := by decide +kernel
theorem dX10_aside_153 : decode cX10_aside 153 = .ok (.iload_n 3, 1) := by decide +kernel
theorem dX10_aside_154 : decode cX10_aside 154 = .ok (.bipush 9, 2) := by decide +kernel
theorem dX10_aside_156 : decode cX10_aside 156 = .ok (.if_icmp .ne 7, 3) := by decide +kernel
theorem dX10_aside_159 : decode cX10_aside 159 = .ok (.iconst 5, 1) := by decide +kernel
theorem dX10_aside_160 : decode cX10_aside 160 = .ok (.goto 4, 3) := by decide +kernel
theorem dX10_aside_163 : decode cX10_aside 163 = .ok (.iconst 1, 1) := by decide +kernel
theorem dX10_aside_164 : decode cX10_aside 164 = .ok (.ireturn, 1) := by decide +kernel
theorem dX10_aside_165 : decode cX10_aside 165 = .ok (.bipush (-2), 2) := by decide +kernel
theorem dX10_aside_167 : decode cX10_aside 167 = .ok (.ireturn, 1) := by decide +kernel
theorem dX10_free_0 : decode cX10_free 0 = .ok (.iload_n 1, 1) := by decide +kernel
theorem dX10_free_1 : decode cX10_free 1 = .ok (.i2l, 1) := by decide +kernel
theorem dX10_free_2 : decode cX10_free 2 = .ok (.lconst 0, 1) := by decide +kernel
theorem dX10_free_3 : decode cX10_free 3 = .ok (.ldc2_w 107, 3) := by decide +kernel
theorem dX10_free_6 : decode cX10_free 6 = .ok (.invokestatic 73, 3) := by decide +kernel
theorem dX10_free_9 : decode cX10_free 9 = .ok (.ifCond .ne 6, 3) := by decide +kernel
theorem dX10_free_12 : decode cX10_free 12 = .ok (.bipush (-2), 2) := by decide +kernel
theorem dX10_free_14 : decode cX10_free 14 = .ok (.ireturn, 1) := by decide +kernel
theorem dX10_free_15 : decode cX10_free 15 = .ok (.aload_n 0, 1) := by decide +kernel
theorem dX10_free_16 : decode cX10_free 16 = .ok (.getfield 22, 3) := by decide +kernel
theorem dX10_free_19 : decode cX10_free 19 = .ok (.aload_n 0, 1) := by decide +kernel
theorem dX10_free_20 : decode cX10_free 20 = .ok (.getfield 25, 3) := by decide +kernel
theorem dX10_free_23 : decode cX10_free 23 = .ok (.invokestatic 218, 3) := by decide +kernel
theorem dX10_free_26 : decode cX10_free 26 = .ok (.aload_n 0, 1) := by decide +kernel
theorem dX10_free_27 : decode cX10_free 27 = .ok (.invokevirtual 222, 3) := by decide +kernel
theorem dX10_free_30 : decode cX10_free 30 = .ok (.istore_n 2, 1) := by decide +kernel
theorem dX10_free_31 : decode cX10_free 31 = .ok (.iload_n 1, 1) := by decide +kernel
theorem dX10_free_32 : decode cX10_free 32 = .ok (.tableswitch 43 0 2 #[28, 30, 35], 28) := by decide +kernel
theorem dX10_free_60 : decode cX10_free 60 = .ok (.iload_n 2, 1) := by decide +kernel
theorem dX10_free_61 : decode cX10_free 61 = .ok (.ireturn, 1) := by decide +kernel
theorem dX10_free_62 : decode cX10_free 62 = .ok (.aload_n 0, 1) := by decide +kernel
theorem dX10_free_63 : decode cX10_free 63 = .ok (.getfield 186, 3) := by decide +kernel
theorem dX10_free_66 : decode cX10_free 66 = .ok (.ireturn, 1) := by decide +kernel
theorem dX10_free_67 : decode cX10_free 67 = .ok (.aload_n 0, 1) := by decide +kernel
theorem dX10_free_68 : decode cX10_free 68 = .ok (.getfield 25, 3) := by decide +kernel
theorem dX10_free_71 : decode cX10_free 71 = .ok (.bipush 23, 2) := by decide +kernel
theorem dX10_free_73 : decode cX10_free 73 = .ok (.iaload, 1) := by decide +kernel
theorem dX10_free_74 : decode cX10_free 74 = .ok (.ireturn, 1) := by decide +kernel
theorem dX10_free_75 : decode cX10_free 75 = .ok (.aload_n 0, 1) := by decide +kernel
theorem dX10_free_76 : decode cX10_free 76 = .ok (.getfield 25, 3) := by decide +kernel
theorem dX10_free_79 : decode cX10_free 79 = .ok (.bipush 24, 2) := by decide +kernel
theorem dX10_free_81 : decode cX10_free 81 = .ok (.iaload, 1) := by decide +kernel
theorem dX10_free_82 : decode cX10_free 82 = .ok (.ireturn, 1) := by decide +kernel
theorem dX10_judged_0 : decode cX10_judged 0 = .ok (.bipush 10, 2) := by decide +kernel
theorem dX10_judged_2 : decode cX10_judged 2 = .ok (.iload_n 2, 1) := by decide +kernel
theorem dX10_judged_3 : decode cX10_judged 3 = .ok (.imul, 1) := by decide +kernel
theorem dX10_judged_4 : decode cX10_judged 4 = .ok (.iload_n 3, 1) := by decide +kernel
theorem dX10_judged_5 : decode cX10_judged 5 = .ok (.iadd, 1) := by decide +kernel
theorem dX10_judged_6 : decode cX10_judged 6 = .ok (.istore 4, 2) := by decide +kernel
theorem dX10_judged_8 : decode cX10_judged 8 = .ok (.iload_n 1, 1) := by decide +kernel
theorem dX10_judged_9 : decode cX10_judged 9 = .ok (.tableswitch 232 1 7 #[43, 86, 127, 145, 166, 193, 214], 43) := by decide +kernel
theorem dX10_judged_52 : decode cX10_judged 52 = .ok (.iload_n 2, 1) := by decide +kernel
theorem dX10_judged_53 : decode cX10_judged 53 = .ok (.ifCond .ne 40, 3) := by decide +kernel
theorem dX10_judged_56 : decode cX10_judged 56 = .ok (.iload_n 3, 1) := by decide +kernel
theorem dX10_judged_57 : decode cX10_judged 57 = .ok (.iconst 4, 1) := by decide +kernel
theorem dX10_judged_58 : decode cX10_judged 58 = .ok (.if_icmp .ge 35, 3) := by decide +kernel
theorem dX10_judged_61 : decode cX10_judged 61 = .ok (.iload_n 3, 1) := by decide +kernel
theorem dX10_judged_62 : decode cX10_judged 62 = .ok (.iconst 2, 1) := by decide +kernel
theorem dX10_judged_63 : decode cX10_judged 63 = .ok (.if_icmp .ne 13, 3) := by decide +kernel
theorem dX10_judged_66 : decode cX10_judged 66 = .ok (.aload_n 0, 1) := by decide +kernel
theorem dX10_judged_67 : decode cX10_judged 67 = .ok (.getfield 25, 3) := by decide +kernel
theorem dX10_judged_70 : decode cX10_judged 70 = .ok (.bipush 20, 2) := by decide +kernel
theorem dX10_judged_72 : decode cX10_judged 72 = .ok (.iaload, 1) := by decide +kernel
theorem dX10_judged_73 : decode cX10_judged 73 = .ok (.ifCond .le 20, 3) := by decide +kernel
theorem dX10_judged_76 : decode cX10_judged 76 = .ok (.aload_n 0, 1) := by decide +kernel
theorem dX10_judged_77 : decode cX10_judged 77 = .ok (.aload_n 0, 1) := by decide +kernel
theorem dX10_judged_78 : decode cX10_judged 78 = .ok (.getfield 25, 3) := by decide +kernel
theorem dX10_judged_81 : decode cX10_judged 81 = .ok (.iload_n 3, 1) := by decide +kernel
theorem dX10_judged_82 : decode cX10_judged 82 = .ok (.invokevirtual 204, 3) := by decide +kernel
theorem dX10_judged_85 : decode cX10_judged 85 = .ok (.iconst 1, 1) := by decide +kernel
theorem dX10_judged_86 : decode cX10_judged 86 = .ok (.if_icmp .gt 7, 3) := by decide +kernel
theorem dX10_judged_89 : decode cX10_judged 89 = .ok (.iconst 1, 1) := by decide +kernel
theorem dX10_judged_90 : decode cX10_judged 90 = .ok (.goto 4, 3) := by decide +kernel
theorem dX10_judged_93 : decode cX10_judged 93 = .ok (.iconst 0, 1) := by decide +kernel
theorem dX10_judged_94 : decode cX10_judged 94 = .ok (.ireturn, 1) := by decide +kernel
theorem dX10_judged_95 : decode cX10_judged 95 = .ok (.aload_n 0, 1) := by decide +kernel
theorem dX10_judged_96 : decode cX10_judged 96 = .ok (.iload 4, 2) := by decide +kernel
theorem dX10_judged_98 : decode cX10_judged 98 = .ok (.invokevirtual 135, 3) := by decide +kernel
theorem dX10_judged_101 : decode cX10_judged 101 = .ok (.ifCond .eq 17, 3) := by decide +kernel
theorem dX10_judged_104 : decode cX10_judged 104 = .ok (.aload_n 0, 1) := by decide +kernel
theorem dX10_judged_105 : decode cX10_judged 105 = .ok (.getfield 25, 3) := by decide +kernel
theorem dX10_judged_108 : decode cX10_judged 108 = .ok (.bipush 26, 2) := by decide +kernel
theorem dX10_judged_110 : decode cX10_judged 110 = .ok (.iload 4, 2) := by decide +kernel
theorem dX10_judged_112 : decode cX10_judged 112 = .ok (.iadd, 1) := by decide +kernel
theorem dX10_judged_113 : decode cX10_judged 113 = .ok (.iaload, 1) := by decide +kernel
theorem dX10_judged_114 : decode cX10_judged 114 = .ok (.iconst 3, 1) := by decide +kernel
theorem dX10_judged_115 : decode cX10_judged 115 = .ok (.if_icmp .ne 5, 3) := by decide +kernel
theorem dX10_judged_118 : decode cX10_judged 118 = .ok (.iconst 0, 1) := by decide +kernel
theorem dX10_judged_119 : decode cX10_judged 119 = .ok (.ireturn, 1) := by decide +kernel
theorem dX10_judged_120 : decode cX10_judged 120 = .ok (.aload_n 0, 1) := by decide +kernel
theorem dX10_judged_121 : decode cX10_judged 121 = .ok (.getfield 25, 3) := by decide +kernel
theorem dX10_judged_124 : decode cX10_judged 124 = .ok (.iload 4, 2) := by decide +kernel
theorem dX10_judged_126 : decode cX10_judged 126 = .ok (.bipush (-9), 2) := by decide +kernel
theorem dX10_judged_128 : decode cX10_judged 128 = .ok (.iconst 0, 1) := by decide +kernel
theorem dX10_judged_129 : decode cX10_judged 129 = .ok (.iconst 0, 1) := by decide +kernel
theorem dX10_judged_130 : decode cX10_judged 130 = .ok (.iconst 0, 1) := by decide +kernel
theorem dX10_judged_131 : decode cX10_judged 131 = .ok (.invokestatic 214, 3) := by decide +kernel
theorem dX10_judged_134 : decode cX10_judged 134 = .ok (.iconst 1, 1) := by decide +kernel
theorem dX10_judged_135 : decode cX10_judged 135 = .ok (.ireturn, 1) := by decide +kernel
theorem dX10_judged_136 : decode cX10_judged 136 = .ok (.aload_n 0, 1) := by decide +kernel
theorem dX10_judged_137 : decode cX10_judged 137 = .ok (.getfield 25, 3) := by decide +kernel
theorem dX10_judged_140 : decode cX10_judged 140 = .ok (.bipush 21, 2) := by decide +kernel
theorem dX10_judged_142 : decode cX10_judged 142 = .ok (.iaload, 1) := by decide +kernel
theorem dX10_judged_143 : decode cX10_judged 143 = .ok (.iload 4, 2) := by decide +kernel
theorem dX10_judged_145 : decode cX10_judged 145 = .ok (.if_icmp .ne 7, 3) := by decide +kernel
theorem dX10_judged_148 : decode cX10_judged 148 = .ok (.iconst 1, 1) := by decide +kernel
theorem dX10_judged_149 : decode cX10_judged 149 = .ok (.goto 4, 3) := by decide +kernel
theorem dX10_judged_152 : decode cX10_judged 152 = .ok (.iconst 0, 1) := by decide +kernel
theorem dX10_judged_153 : decode cX10_judged 153 = .ok (.ireturn, 1) := by decide +kernel
theorem dX10_judged_154 : decode cX10_judged 154 = .ok (.iload_n 2, 1) := by decide +kernel
theorem dX10_judged_155 : decode cX10_judged 155 = .ok (.iconst 4, 1) := by decide +kernel
theorem dX10_judged_156 : decode cX10_judged 156 = .ok (.if_icmp .ge 17, 3) := by decide +kernel
theorem dX10_judged_159 : decode cX10_judged 159 = .ok (.aload_n 0, 1) := by decide +kernel
theorem dX10_judged_160 : decode cX10_judged 160 = .ok (.getfield 25, 3) := by decide +kernel
theorem dX10_judged_163 : decode cX10_judged 163 = .ok (.iload_n 2, 1) := by decide +kernel
theorem dX10_judged_164 : decode cX10_judged 164 = .ok (.iaload, 1) := by decide +kernel
theorem dX10_judged_165 : decode cX10_judged 165 = .ok (.iload_n 3, 1) := by decide +kernel
theorem dX10_judged_166 : decode cX10_judged 166 = .ok (.if_icmp .ne 7, 3) := by decide +kernel
theorem dX10_judged_169 : decode cX10_judged 169 = .ok (.iconst 1, 1) := by decide +kernel
theorem dX10_judged_170 : decode cX10_judged 170 = .ok (.goto 4, 3) := by decide +kernel
theorem dX10_judged_173 : decode cX10_judged 173 = .ok (.iconst 0, 1) := by decide +kernel
theorem dX10_judged_174 : decode cX10_judged 174 = .ok (.ireturn, 1) := by decide +kernel
theorem dX10_judged_175 : decode cX10_judged 175 = .ok (.iload_n 2, 1) := by decide +kernel
theorem dX10_judged_176 : decode cX10_judged 176 = .ok (.ifCond .ne 9, 3) := by decide +kernel
theorem dX10_judged_179 : decode cX10_judged 179 = .ok (.iload_n 3, 1) := by decide +kernel
theorem dX10_judged_180 : decode cX10_judged 180 = .ok (.bipush 7, 2) := by decide +kernel
theorem dX10_judged_182 : decode cX10_judged 182 = .ok (.if_icmp .le 5, 3) := by decide +kernel
theorem dX10_judged_185 : decode cX10_judged 185 = .ok (.iconst 0, 1) := by decide +kernel
theorem dX10_judged_186 : decode cX10_judged 186 = .ok (.ireturn, 1) := by decide +kernel
theorem dX10_judged_187 : decode cX10_judged 187 = .ok (.aload_n 0, 1) := by decide +kernel
theorem dX10_judged_188 : decode cX10_judged 188 = .ok (.getfield 25, 3) := by decide +kernel
theorem dX10_judged_191 : decode cX10_judged 191 = .ok (.bipush 25, 2) := by decide +kernel
theorem dX10_judged_193 : decode cX10_judged 193 = .ok (.dup2, 1) := by decide +kernel
theorem dX10_judged_194 : decode cX10_judged 194 = .ok (.iaload, 1) := by decide +kernel
theorem dX10_judged_195 : decode cX10_judged 195 = .ok (.iconst 1, 1) := by decide +kernel
theorem dX10_judged_196 : decode cX10_judged 196 = .ok (.iload_n 3, 1) := by decide +kernel
theorem dX10_judged_197 : decode cX10_judged 197 = .ok (.ishl, 1) := by decide +kernel
theorem dX10_judged_198 : decode cX10_judged 198 = .ok (.ixor, 1) := by decide +kernel
theorem dX10_judged_199 : decode cX10_judged 199 = .ok (.iastore, 1) := by decide +kernel
theorem dX10_judged_200 : decode cX10_judged 200 = .ok (.iconst 1, 1) := by decide +kernel
theorem dX10_judged_201 : decode cX10_judged 201 = .ok (.ireturn, 1) := by decide +kernel
theorem dX10_judged_202 : decode cX10_judged 202 = .ok (.iload_n 2, 1) := by decide +kernel
theorem dX10_judged_203 : decode cX10_judged 203 = .ok (.ifCond .ne 18, 3) := by decide +kernel
theorem dX10_judged_206 : decode cX10_judged 206 = .ok (.aload_n 0, 1) := by decide +kernel
theorem dX10_judged_207 : decode cX10_judged 207 = .ok (.getfield 25, 3) := by decide +kernel
theorem dX10_judged_210 : decode cX10_judged 210 = .ok (.bipush 20, 2) := by decide +kernel
theorem dX10_judged_212 : decode cX10_judged 212 = .ok (.iaload, 1) := by decide +kernel
theorem dX10_judged_213 : decode cX10_judged 213 = .ok (.iload_n 3, 1) := by decide +kernel
theorem dX10_judged_214 : decode cX10_judged 214 = .ok (.if_icmp .ne 7, 3) := by decide +kernel
theorem dX10_judged_217 : decode cX10_judged 217 = .ok (.iconst 1, 1) := by decide +kernel
theorem dX10_judged_218 : decode cX10_judged 218 = .ok (.goto 4, 3) := by decide +kernel
theorem dX10_judged_221 : decode cX10_judged 221 = .ok (.iconst 0, 1) := by decide +kernel
theorem dX10_judged_222 : decode cX10_judged 222 = .ok (.ireturn, 1) := by decide +kernel
theorem dX10_judged_223 : decode cX10_judged 223 = .ok (.aload_n 0, 1) := by decide +kernel
theorem dX10_judged_224 : decode cX10_judged 224 = .ok (.getfield 25, 3) := by decide +kernel
theorem dX10_judged_227 : decode cX10_judged 227 = .ok (.bipush 23, 2) := by decide +kernel
theorem dX10_judged_229 : decode cX10_judged 229 = .ok (.iaload, 1) := by decide +kernel
theorem dX10_judged_230 : decode cX10_judged 230 = .ok (.iload 4, 2) := by decide +kernel
theorem dX10_judged_232 : decode cX10_judged 232 = .ok (.if_icmp .ne 7, 3) := by decide +kernel
theorem dX10_judged_235 : decode cX10_judged 235 = .ok (.iconst 1, 1) := by decide +kernel
theorem dX10_judged_236 : decode cX10_judged 236 = .ok (.goto 4, 3) := by decide +kernel
theorem dX10_judged_239 : decode cX10_judged 239 = .ok (.iconst 0, 1) := by decide +kernel
theorem dX10_judged_240 : decode cX10_judged 240 = .ok (.ireturn, 1) := by decide +kernel
theorem dX10_judged_241 : decode cX10_judged 241 = .ok (.iconst 0, 1) := by decide +kernel
theorem dX10_judged_242 : decode cX10_judged 242 = .ok (.ireturn, 1) := by decide +kernel
theorem dX10_thousands_0 : decode cX10_thousands 0 = .ok (.lconst 1, 1) := by decide +kernel
theorem dX10_thousands_1 : decode cX10_thousands 1 = .ok (.lstore_n 1, 1) := by decide +kernel
theorem dX10_thousands_2 : decode cX10_thousands 2 = .ok (.iconst 0, 1) := by decide +kernel
theorem dX10_thousands_3 : decode cX10_thousands 3 = .ok (.istore_n 3, 1) := by decide +kernel
theorem dX10_thousands_4 : decode cX10_thousands 4 = .ok (.iload_n 3, 1) := by decide +kernel
theorem dX10_thousands_5 : decode cX10_thousands 5 = .ok (.iload_n 0, 1) := by decide +kernel
theorem dX10_thousands_6 : decode cX10_thousands 6 = .ok (.if_icmp .ge 15, 3) := by decide +kernel
theorem dX10_thousands_9 : decode cX10_thousands 9 = .ok (.lload_n 1, 1) := by decide +kernel
theorem dX10_thousands_10 : decode cX10_thousands 10 = .ok (.ldc2_w 225, 3) := by decide +kernel
theorem dX10_thousands_13 : decode cX10_thousands 13 = .ok (.lmul, 1) := by decide +kernel
theorem dX10_thousands_14 : decode cX10_thousands 14 = .ok (.lstore_n 1, 1) := by decide +kernel
theorem dX10_thousands_15 : decode cX10_thousands 15 = .ok (.iinc 3 1, 3) := by decide +kernel
theorem dX10_thousands_18 : decode cX10_thousands 18 = .ok (.goto (-14), 3) := by decide +kernel
theorem dX10_thousands_21 : decode cX10_thousands 21 = .ok (.lload_n 1, 1) := by decide +kernel
theorem dX10_thousands_22 : decode cX10_thousands 22 = .ok (.lreturn, 1) := by decide +kernel
theorem dX10_judge_0 : decode cX10_judge 0 = .ok (.iload_n 1, 1) := by decide +kernel
theorem dX10_judge_1 : decode cX10_judge 1 = .ok (.i2l, 1) := by decide +kernel
theorem dX10_judge_2 : decode cX10_judge 2 = .ok (.lconst 1, 1) := by decide +kernel
theorem dX10_judge_3 : decode cX10_judge 3 = .ok (.ldc2_w 227, 3) := by decide +kernel
theorem dX10_judge_6 : decode cX10_judge 6 = .ok (.invokestatic 73, 3) := by decide +kernel
theorem dX10_judge_9 : decode cX10_judge 9 = .ok (.ifCond .eq 17, 3) := by decide +kernel
theorem dX10_judge_12 : decode cX10_judge 12 = .ok (.lload_n 2, 1) := by decide +kernel
theorem dX10_judge_13 : decode cX10_judge 13 = .ok (.lconst 0, 1) := by decide +kernel
theorem dX10_judge_14 : decode cX10_judge 14 = .ok (.iload_n 1, 1) := by decide +kernel
theorem dX10_judge_15 : decode cX10_judge 15 = .ok (.invokestatic 229, 3) := by decide +kernel
theorem dX10_judge_18 : decode cX10_judge 18 = .ok (.lconst 1, 1) := by decide +kernel
theorem dX10_judge_19 : decode cX10_judge 19 = .ok (.lsub, 1) := by decide +kernel
theorem dX10_judge_20 : decode cX10_judge 20 = .ok (.invokestatic 73, 3) := by decide +kernel
theorem dX10_judge_23 : decode cX10_judge 23 = .ok (.ifCond .ne 6, 3) := by decide +kernel
theorem dX10_judge_26 : decode cX10_judge 26 = .ok (.bipush (-2), 2) := by decide +kernel
theorem dX10_judge_28 : decode cX10_judge 28 = .ok (.ireturn, 1) := by decide +kernel
theorem dX10_judge_29 : decode cX10_judge 29 = .ok (.aload_n 0, 1) := by decide +kernel
theorem dX10_judge_30 : decode cX10_judge 30 = .ok (.getfield 22, 3) := by decide +kernel
theorem dX10_judge_33 : decode cX10_judge 33 = .ok (.aload_n 0, 1) := by decide +kernel
theorem dX10_judge_34 : decode cX10_judge 34 = .ok (.getfield 25, 3) := by decide +kernel
theorem dX10_judge_37 : decode cX10_judge 37 = .ok (.invokestatic 218, 3) := by decide +kernel
theorem dX10_judge_40 : decode cX10_judge 40 = .ok (.iconst 0, 1) := by decide +kernel
theorem dX10_judge_41 : decode cX10_judge 41 = .ok (.istore 4, 2) := by decide +kernel
theorem dX10_judge_43 : decode cX10_judge 43 = .ok (.iload 4, 2) := by decide +kernel
theorem dX10_judge_45 : decode cX10_judge 45 = .ok (.iload_n 1, 1) := by decide +kernel
theorem dX10_judge_46 : decode cX10_judge 46 = .ok (.if_icmp .ge 55, 3) := by decide +kernel
theorem dX10_judge_49 : decode cX10_judge 49 = .ok (.lload_n 2, 1) := by decide +kernel
theorem dX10_judge_50 : decode cX10_judge 50 = .ok (.iload_n 1, 1) := by decide +kernel
theorem dX10_judge_51 : decode cX10_judge 51 = .ok (.iconst 1, 1) := by decide +kernel
theorem dX10_judge_52 : decode cX10_judge 52 = .ok (.isub, 1) := by decide +kernel
theorem dX10_judge_53 : decode cX10_judge 53 = .ok (.iload 4, 2) := by decide +kernel
theorem dX10_judge_55 : decode cX10_judge 55 = .ok (.isub, 1) := by decide +kernel
theorem dX10_judge_56 : decode cX10_judge 56 = .ok (.invokestatic 229, 3) := by decide +kernel
theorem dX10_judge_59 : decode cX10_judge 59 = .ok (.ldiv, 1) := by decide +kernel
theorem dX10_judge_60 : decode cX10_judge 60 = .ok (.ldc2_w 225, 3) := by decide +kernel
theorem dX10_judge_63 : decode cX10_judge 63 = .ok (.lrem, 1) := by decide +kernel
theorem dX10_judge_64 : decode cX10_judge 64 = .ok (.l2i, 1) := by decide +kernel
theorem dX10_judge_65 : decode cX10_judge 65 = .ok (.istore 5, 2) := by decide +kernel
theorem dX10_judge_67 : decode cX10_judge 67 = .ok (.aload_n 0, 1) := by decide +kernel
theorem dX10_judge_68 : decode cX10_judge 68 = .ok (.iload 5, 2) := by decide +kernel
theorem dX10_judge_70 : decode cX10_judge 70 = .ok (.bipush 100, 2) := by decide +kernel
theorem dX10_judge_72 : decode cX10_judge 72 = .ok (.idiv, 1) := by decide +kernel
theorem dX10_judge_73 : decode cX10_judge 73 = .ok (.iload 5, 2) := by decide +kernel
theorem dX10_judge_75 : decode cX10_judge 75 = .ok (.bipush 10, 2) := by decide +kernel
theorem dX10_judge_77 : decode cX10_judge 77 = .ok (.idiv, 1) := by decide +kernel
theorem dX10_judge_78 : decode cX10_judge 78 = .ok (.bipush 10, 2) := by decide +kernel
theorem dX10_judge_80 : decode cX10_judge 80 = .ok (.irem, 1) := by decide +kernel
theorem dX10_judge_81 : decode cX10_judge 81 = .ok (.iload 5, 2) := by decide +kernel
theorem dX10_judge_83 : decode cX10_judge 83 = .ok (.bipush 10, 2) := by decide +kernel
theorem dX10_judge_85 : decode cX10_judge 85 = .ok (.irem, 1) := by decide +kernel
theorem dX10_judge_86 : decode cX10_judge 86 = .ok (.invokevirtual 233, 3) := by decide +kernel
theorem dX10_judge_89 : decode cX10_judge 89 = .ok (.ifCond .ne 6, 3) := by decide +kernel
theorem dX10_judge_92 : decode cX10_judge 92 = .ok (.iload 4, 2) := by decide +kernel
theorem dX10_judge_94 : decode cX10_judge 94 = .ok (.ireturn, 1) := by decide +kernel
theorem dX10_judge_95 : decode cX10_judge 95 = .ok (.iinc 4 1, 3) := by decide +kernel
theorem dX10_judge_98 : decode cX10_judge 98 = .ok (.goto (-55), 3) := by decide +kernel
theorem dX10_judge_101 : decode cX10_judge 101 = .ok (.bipush (-9), 2) := by decide +kernel
theorem dX10_judge_103 : decode cX10_judge 103 = .ok (.ireturn, 1) := by decide +kernel
theorem dX10_see_0 : decode cX10_see 0 = .ok (.iload_n 1, 1) := by decide +kernel
theorem dX10_see_1 : decode cX10_see 1 = .ok (.i2l, 1) := by decide +kernel
theorem dX10_see_2 : decode cX10_see 2 = .ok (.lconst 0, 1) := by decide +kernel
theorem dX10_see_3 : decode cX10_see 3 = .ok (.ldc2_w 236, 3) := by decide +kernel
theorem dX10_see_6 : decode cX10_see 6 = .ok (.invokestatic 73, 3) := by decide +kernel
theorem dX10_see_9 : decode cX10_see 9 = .ok (.ifCond .eq 13, 3) := by decide +kernel
theorem dX10_see_12 : decode cX10_see 12 = .ok (.iload_n 2, 1) := by decide +kernel
theorem dX10_see_13 : decode cX10_see 13 = .ok (.i2l, 1) := by decide +kernel
theorem dX10_see_14 : decode cX10_see 14 = .ok (.lconst 0, 1) := by decide +kernel
theorem dX10_see_15 : decode cX10_see 15 = .ok (.lconst 1, 1) := by decide +kernel
theorem dX10_see_16 : decode cX10_see 16 = .ok (.invokestatic 73, 3) := by decide +kernel
theorem dX10_see_19 : decode cX10_see 19 = .ok (.ifCond .ne 6, 3) := by decide +kernel
theorem dX10_see_22 : decode cX10_see 22 = .ok (.bipush (-2), 2) := by decide +kernel
theorem dX10_see_24 : decode cX10_see 24 = .ok (.ireturn, 1) := by decide +kernel
theorem dX10_see_25 : decode cX10_see 25 = .ok (.aload_n 0, 1) := by decide +kernel
theorem dX10_see_26 : decode cX10_see 26 = .ok (.getfield 195, 3) := by decide +kernel
theorem dX10_see_29 : decode cX10_see 29 = .ok (.bipush 6, 2) := by decide +kernel
theorem dX10_see_31 : decode cX10_see 31 = .ok (.if_icmp .ne 6, 3) := by decide +kernel
theorem dX10_see_34 : decode cX10_see 34 = .ok (.bipush (-4), 2) := by decide +kernel
theorem dX10_see_36 : decode cX10_see 36 = .ok (.ireturn, 1) := by decide +kernel
theorem dX10_see_37 : decode cX10_see 37 = .ok (.aload_n 0, 1) := by decide +kernel
theorem dX10_see_38 : decode cX10_see 38 = .ok (.getfield 38, 3) := by decide +kernel
theorem dX10_see_41 : decode cX10_see 41 = .ok (.aload_n 0, 1) := by decide +kernel
theorem dX10_see_42 : decode cX10_see 42 = .ok (.getfield 195, 3) := by decide +kernel
theorem dX10_see_45 : decode cX10_see 45 = .ok (.iload_n 1, 1) := by decide +kernel
theorem dX10_see_46 : decode cX10_see 46 = .ok (.iastore, 1) := by decide +kernel
theorem dX10_see_47 : decode cX10_see 47 = .ok (.aload_n 0, 1) := by decide +kernel
theorem dX10_see_48 : decode cX10_see 48 = .ok (.getfield 41, 3) := by decide +kernel
theorem dX10_see_51 : decode cX10_see 51 = .ok (.aload_n 0, 1) := by decide +kernel
theorem dX10_see_52 : decode cX10_see 52 = .ok (.getfield 195, 3) := by decide +kernel
theorem dX10_see_55 : decode cX10_see 55 = .ok (.iload_n 2, 1) := by decide +kernel
theorem dX10_see_56 : decode cX10_see 56 = .ok (.iastore, 1) := by decide +kernel
theorem dX10_see_57 : decode cX10_see 57 = .ok (.aload_n 0, 1) := by decide +kernel
theorem dX10_see_58 : decode cX10_see 58 = .ok (.dup, 1) := by decide +kernel
theorem dX10_see_59 : decode cX10_see 59 = .ok (.getfield 195, 3) := by decide +kernel
theorem dX10_see_62 : decode cX10_see 62 = .ok (.iconst 1, 1) := by decide +kernel
theorem dX10_see_63 : decode cX10_see 63 = .ok (.iadd, 1) := by decide +kernel
theorem dX10_see_64 : decode cX10_see 64 = .ok (.putfield 195, 3) := by decide +kernel
theorem dX10_see_67 : decode cX10_see 67 = .ok (.aload_n 0, 1) := by decide +kernel
theorem dX10_see_68 : decode cX10_see 68 = .ok (.getfield 195, 3) := by decide +kernel
theorem dX10_see_71 : decode cX10_see 71 = .ok (.ireturn, 1) := by decide +kernel
theorem dX10_unsee_0 : decode cX10_unsee 0 = .ok (.aload_n 0, 1) := by decide +kernel
theorem dX10_unsee_1 : decode cX10_unsee 1 = .ok (.getfield 195, 3) := by decide +kernel
theorem dX10_unsee_4 : decode cX10_unsee 4 = .ok (.istore_n 1, 1) := by decide +kernel
theorem dX10_unsee_5 : decode cX10_unsee 5 = .ok (.aload_n 0, 1) := by decide +kernel
theorem dX10_unsee_6 : decode cX10_unsee 6 = .ok (.iconst 0, 1) := by decide +kernel
theorem dX10_unsee_7 : decode cX10_unsee 7 = .ok (.putfield 195, 3) := by decide +kernel
theorem dX10_unsee_10 : decode cX10_unsee 10 = .ok (.iload_n 1, 1) := by decide +kernel
theorem dX10_unsee_11 : decode cX10_unsee 11 = .ok (.ireturn, 1) := by decide +kernel
theorem dX10_which_0 : decode cX10_which 0 = .ok (.iconst 0, 1) := by decide +kernel
theorem dX10_which_1 : decode cX10_which 1 = .ok (.istore_n 1, 1) := by decide +kernel
theorem dX10_which_2 : decode cX10_which 2 = .ok (.iconst 0, 1) := by decide +kernel
theorem dX10_which_3 : decode cX10_which 3 = .ok (.istore_n 2, 1) := by decide +kernel
theorem dX10_which_4 : decode cX10_which 4 = .ok (.iload_n 2, 1) := by decide +kernel
theorem dX10_which_5 : decode cX10_which 5 = .ok (.aload_n 0, 1) := by decide +kernel
theorem dX10_which_6 : decode cX10_which 6 = .ok (.getfield 70, 3) := by decide +kernel
theorem dX10_which_9 : decode cX10_which 9 = .ok (.if_icmp .ge 125, 3) := by decide +kernel
theorem dX10_which_12 : decode cX10_which 12 = .ok (.aload_n 0, 1) := by decide +kernel
theorem dX10_which_13 : decode cX10_which 13 = .ok (.getfield 22, 3) := by decide +kernel
theorem dX10_which_16 : decode cX10_which 16 = .ok (.aload_n 0, 1) := by decide +kernel
theorem dX10_which_17 : decode cX10_which 17 = .ok (.getfield 25, 3) := by decide +kernel
theorem dX10_which_20 : decode cX10_which 20 = .ok (.invokestatic 218, 3) := by decide +kernel
theorem dX10_which_23 : decode cX10_which 23 = .ok (.aload_n 0, 1) := by decide +kernel
theorem dX10_which_24 : decode cX10_which 24 = .ok (.iload_n 2, 1) := by decide +kernel
theorem dX10_which_25 : decode cX10_which 25 = .ok (.putfield 62, 3) := by decide +kernel
theorem dX10_which_28 : decode cX10_which 28 = .ok (.aload_n 0, 1) := by decide +kernel
theorem dX10_which_29 : decode cX10_which 29 = .ok (.invokevirtual 222, 3) := by decide +kernel
theorem dX10_which_32 : decode cX10_which 32 = .ok (.istore_n 3, 1) := by decide +kernel
theorem dX10_which_33 : decode cX10_which 33 = .ok (.aload_n 0, 1) := by decide +kernel
theorem dX10_which_34 : decode cX10_which 34 = .ok (.bipush (-9), 2) := by decide +kernel
theorem dX10_which_36 : decode cX10_which 36 = .ok (.putfield 62, 3) := by decide +kernel
theorem dX10_which_39 : decode cX10_which 39 = .ok (.iconst 1, 1) := by decide +kernel
theorem dX10_which_40 : decode cX10_which 40 = .ok (.istore 4, 2) := by decide +kernel
theorem dX10_which_42 : decode cX10_which 42 = .ok (.iconst 0, 1) := by decide +kernel
theorem dX10_which_43 : decode cX10_which 43 = .ok (.istore 5, 2) := by decide +kernel
theorem dX10_which_45 : decode cX10_which 45 = .ok (.iload 5, 2) := by decide +kernel
theorem dX10_which_47 : decode cX10_which 47 = .ok (.aload_n 0, 1) := by decide +kernel
theorem dX10_which_48 : decode cX10_which 48 = .ok (.getfield 195, 3) := by decide +kernel
theorem dX10_which_51 : decode cX10_which 51 = .ok (.if_icmp .ge 62, 3) := by decide +kernel
theorem dX10_which_54 : decode cX10_which 54 = .ok (.iload 4, 2) := by decide +kernel
theorem dX10_which_56 : decode cX10_which 56 = .ok (.ifCond .eq 48, 3) := by decide +kernel
theorem dX10_which_59 : decode cX10_which 59 = .ok (.aload_n 0, 1) := by decide +kernel
theorem dX10_which_60 : decode cX10_which 60 = .ok (.getfield 25, 3) := by decide +kernel
theorem dX10_which_63 : decode cX10_which 63 = .ok (.bipush 23, 2) := by decide +kernel
theorem dX10_which_65 : decode cX10_which 65 = .ok (.iaload, 1) := by decide +kernel
theorem dX10_which_66 : decode cX10_which 66 = .ok (.aload_n 0, 1) := by decide +kernel
theorem dX10_which_67 : decode cX10_which 67 = .ok (.getfield 38, 3) := by decide +kernel
theorem dX10_which_70 : decode cX10_which 70 = .ok (.iload 5, 2) := by decide +kernel
theorem dX10_which_72 : decode cX10_which 72 = .ok (.iaload, 1) := by decide +kernel
theorem dX10_which_73 : decode cX10_which 73 = .ok (.if_icmp .ne 7, 3) := by decide +kernel
theorem dX10_which_76 : decode cX10_which 76 = .ok (.iconst 1, 1) := by decide +kernel
theorem dX10_which_77 : decode cX10_which 77 = .ok (.goto 4, 3) := by decide +kernel
theorem dX10_which_80 : decode cX10_which 80 = .ok (.iconst 0, 1) := by decide +kernel
theorem dX10_which_81 : decode cX10_which 81 = .ok (.aload_n 0, 1) := by decide +kernel
theorem dX10_which_82 : decode cX10_which 82 = .ok (.getfield 41, 3) := by decide +kernel
theorem dX10_which_85 : decode cX10_which 85 = .ok (.iload 5, 2) := by decide +kernel
theorem dX10_which_87 : decode cX10_which 87 = .ok (.iaload, 1) := by decide +kernel
theorem dX10_which_88 : decode cX10_which 88 = .ok (.iconst 1, 1) := by decide +kernel
theorem dX10_which_89 : decode cX10_which 89 = .ok (.if_icmp .ne 7, 3) := by decide +kernel
theorem dX10_which_92 : decode cX10_which 92 = .ok (.iconst 1, 1) := by decide +kernel
theorem dX10_which_93 : decode cX10_which 93 = .ok (.goto 4, 3) := by decide +kernel
theorem dX10_which_96 : decode cX10_which 96 = .ok (.iconst 0, 1) := by decide +kernel
theorem dX10_which_97 : decode cX10_which 97 = .ok (.if_icmp .ne 7, 3) := by decide +kernel
theorem dX10_which_100 : decode cX10_which 100 = .ok (.iconst 1, 1) := by decide +kernel
theorem dX10_which_101 : decode cX10_which 101 = .ok (.goto 4, 3) := by decide +kernel
theorem dX10_which_104 : decode cX10_which 104 = .ok (.iconst 0, 1) := by decide +kernel
theorem dX10_which_105 : decode cX10_which 105 = .ok (.istore 4, 2) := by decide +kernel
theorem dX10_which_107 : decode cX10_which 107 = .ok (.iinc 5 1, 3) := by decide +kernel
theorem dX10_which_110 : decode cX10_which 110 = .ok (.goto (-65), 3) := by decide +kernel
theorem dX10_which_113 : decode cX10_which 113 = .ok (.iload_n 1, 1) := by decide +kernel
theorem dX10_which_114 : decode cX10_which 114 = .ok (.iload 4, 2) := by decide +kernel
theorem dX10_which_116 : decode cX10_which 116 = .ok (.ifCond .eq 9, 3) := by decide +kernel
theorem dX10_which_119 : decode cX10_which 119 = .ok (.iconst 1, 1) := by decide +kernel
theorem dX10_which_120 : decode cX10_which 120 = .ok (.iload_n 2, 1) := by decide +kernel
theorem dX10_which_121 : decode cX10_which 121 = .ok (.ishl, 1) := by decide +kernel
theorem dX10_which_122 : decode cX10_which 122 = .ok (.goto 4, 3) := by decide +kernel
theorem dX10_which_125 : decode cX10_which 125 = .ok (.iconst 0, 1) := by decide +kernel
theorem dX10_which_126 : decode cX10_which 126 = .ok (.ior, 1) := by decide +kernel
theorem dX10_which_127 : decode cX10_which 127 = .ok (.istore_n 1, 1) := by decide +kernel
theorem dX10_which_128 : decode cX10_which 128 = .ok (.iinc 2 1, 3) := by decide +kernel
theorem dX10_which_131 : decode cX10_which 131 = .ok (.goto (-127), 3) := by decide +kernel
theorem dX10_which_134 : decode cX10_which 134 = .ok (.iload_n 1, 1) := by decide +kernel
theorem dX10_which_135 : decode cX10_which 135 = .ok (.ireturn, 1) := by decide +kernel
theorem dX10_layPlaces_0 : decode cX10_layPlaces 0 = .ok (.iconst 0, 1) := by decide +kernel
theorem dX10_layPlaces_1 : decode cX10_layPlaces 1 = .ok (.istore_n 1, 1) := by decide +kernel
theorem dX10_layPlaces_2 : decode cX10_layPlaces 2 = .ok (.iconst 0, 1) := by decide +kernel
theorem dX10_layPlaces_3 : decode cX10_layPlaces 3 = .ok (.istore_n 2, 1) := by decide +kernel
theorem dX10_layPlaces_4 : decode cX10_layPlaces 4 = .ok (.iload_n 2, 1) := by decide +kernel
theorem dX10_layPlaces_5 : decode cX10_layPlaces 5 = .ok (.aload_n 0, 1) := by decide +kernel
theorem dX10_layPlaces_6 : decode cX10_layPlaces 6 = .ok (.getfield 70, 3) := by decide +kernel
theorem dX10_layPlaces_9 : decode cX10_layPlaces 9 = .ok (.if_icmp .ge 41, 3) := by decide +kernel
theorem dX10_layPlaces_12 : decode cX10_layPlaces 12 = .ok (.aload_n 0, 1) := by decide +kernel
theorem dX10_layPlaces_13 : decode cX10_layPlaces 13 = .ok (.getfield 22, 3) := by decide +kernel
theorem dX10_layPlaces_16 : decode cX10_layPlaces 16 = .ok (.bipush 26, 2) := by decide +kernel
theorem dX10_layPlaces_18 : decode cX10_layPlaces 18 = .ok (.iload_n 2, 1) := by decide +kernel
theorem dX10_layPlaces_19 : decode cX10_layPlaces 19 = .ok (.iadd, 1) := by decide +kernel
theorem dX10_layPlaces_20 : decode cX10_layPlaces 20 = .ok (.iaload, 1) := by decide +kernel
theorem dX10_layPlaces_21 : decode cX10_layPlaces 21 = .ok (.ifCond .le 23, 3) := by decide +kernel
theorem dX10_layPlaces_24 : decode cX10_layPlaces 24 = .ok (.aload_n 0, 1) := by decide +kernel
theorem dX10_layPlaces_25 : decode cX10_layPlaces 25 = .ok (.getfield 47, 3) := by decide +kernel
theorem dX10_layPlaces_28 : decode cX10_layPlaces 28 = .ok (.iload_n 1, 1) := by decide +kernel
theorem dX10_layPlaces_29 : decode cX10_layPlaces 29 = .ok (.bipush 6, 2) := by decide +kernel
theorem dX10_layPlaces_31 : decode cX10_layPlaces 31 = .ok (.if_icmp .ge 7, 3) := by decide +kernel
theorem dX10_layPlaces_34 : decode cX10_layPlaces 34 = .ok (.iload_n 1, 1) := by decide +kernel
theorem dX10_layPlaces_35 : decode cX10_layPlaces 35 = .ok (.goto 4, 3) := by decide +kernel
theorem dX10_layPlaces_38 : decode cX10_layPlaces 38 = .ok (.iconst 5, 1) := by decide +kernel
theorem dX10_layPlaces_39 : decode cX10_layPlaces 39 = .ok (.iload_n 2, 1) := by decide +kernel
theorem dX10_layPlaces_40 : decode cX10_layPlaces 40 = .ok (.iastore, 1) := by decide +kernel
theorem dX10_layPlaces_41 : decode cX10_layPlaces 41 = .ok (.iinc 1 1, 3) := by decide +kernel
theorem dX10_layPlaces_44 : decode cX10_layPlaces 44 = .ok (.iinc 2 1, 3) := by decide +kernel
theorem dX10_layPlaces_47 : decode cX10_layPlaces 47 = .ok (.goto (-43), 3) := by decide +kernel
theorem dX10_layPlaces_50 : decode cX10_layPlaces 50 = .ok (.iload_n 1, 1) := by decide +kernel
theorem dX10_layPlaces_51 : decode cX10_layPlaces 51 = .ok (.ireturn, 1) := by decide +kernel
theorem dX10_stopsBy_0 : decode cX10_stopsBy 0 = .ok (.aload_n 0, 1) := by decide +kernel
theorem dX10_stopsBy_1 : decode cX10_stopsBy 1 = .ok (.getfield 22, 3) := by decide +kernel
theorem dX10_stopsBy_4 : decode cX10_stopsBy 4 = .ok (.aload_n 0, 1) := by decide +kernel
theorem dX10_stopsBy_5 : decode cX10_stopsBy 5 = .ok (.getfield 25, 3) := by decide +kernel
theorem dX10_stopsBy_8 : decode cX10_stopsBy 8 = .ok (.invokestatic 218, 3) := by decide +kernel
theorem dX10_stopsBy_11 : decode cX10_stopsBy 11 = .ok (.aload_n 0, 1) := by decide +kernel
theorem dX10_stopsBy_12 : decode cX10_stopsBy 12 = .ok (.getfield 25, 3) := by decide +kernel
theorem dX10_stopsBy_15 : decode cX10_stopsBy 15 = .ok (.bipush 25, 2) := by decide +kernel
theorem dX10_stopsBy_17 : decode cX10_stopsBy 17 = .ok (.iconst 0, 1) := by decide +kernel
theorem dX10_stopsBy_18 : decode cX10_stopsBy 18 = .ok (.iastore, 1) := by decide +kernel
theorem dX10_stopsBy_19 : decode cX10_stopsBy 19 = .ok (.iconst 0, 1) := by decide +kernel
theorem dX10_stopsBy_20 : decode cX10_stopsBy 20 = .ok (.istore_n 3, 1) := by decide +kernel
theorem dX10_stopsBy_21 : decode cX10_stopsBy 21 = .ok (.iload_n 3, 1) := by decide +kernel
theorem dX10_stopsBy_22 : decode cX10_stopsBy 22 = .ok (.iload_n 2, 1) := by decide +kernel
theorem dX10_stopsBy_23 : decode cX10_stopsBy 23 = .ok (.if_icmp .ge 49, 3) := by decide +kernel
theorem dX10_stopsBy_26 : decode cX10_stopsBy 26 = .ok (.aload_n 0, 1) := by decide +kernel
theorem dX10_stopsBy_27 : decode cX10_stopsBy 27 = .ok (.getfield 25, 3) := by decide +kernel
theorem dX10_stopsBy_30 : decode cX10_stopsBy 30 = .ok (.bipush 26, 2) := by decide +kernel
theorem dX10_stopsBy_32 : decode cX10_stopsBy 32 = .ok (.aload_n 0, 1) := by decide +kernel
theorem dX10_stopsBy_33 : decode cX10_stopsBy 33 = .ok (.getfield 47, 3) := by decide +kernel
theorem dX10_stopsBy_36 : decode cX10_stopsBy 36 = .ok (.iload_n 3, 1) := by decide +kernel
theorem dX10_stopsBy_37 : decode cX10_stopsBy 37 = .ok (.iaload, 1) := by decide +kernel
theorem dX10_stopsBy_38 : decode cX10_stopsBy 38 = .ok (.iadd, 1) := by decide +kernel
theorem dX10_stopsBy_39 : decode cX10_stopsBy 39 = .ok (.iload_n 1, 1) := by decide +kernel
theorem dX10_stopsBy_40 : decode cX10_stopsBy 40 = .ok (.iload_n 3, 1) := by decide +kernel
theorem dX10_stopsBy_41 : decode cX10_stopsBy 41 = .ok (.invokestatic 163, 3) := by decide +kernel
theorem dX10_stopsBy_44 : decode cX10_stopsBy 44 = .ok (.ifCond .eq 20, 3) := by decide +kernel
theorem dX10_stopsBy_47 : decode cX10_stopsBy 47 = .ok (.aload_n 0, 1) := by decide +kernel
theorem dX10_stopsBy_48 : decode cX10_stopsBy 48 = .ok (.getfield 25, 3) := by decide +kernel
theorem dX10_stopsBy_51 : decode cX10_stopsBy 51 = .ok (.bipush 26, 2) := by decide +kernel
theorem dX10_stopsBy_53 : decode cX10_stopsBy 53 = .ok (.aload_n 0, 1) := by decide +kernel
theorem dX10_stopsBy_54 : decode cX10_stopsBy 54 = .ok (.getfield 47, 3) := by decide +kernel
theorem dX10_stopsBy_57 : decode cX10_stopsBy 57 = .ok (.iload_n 3, 1) := by decide +kernel
theorem dX10_stopsBy_58 : decode cX10_stopsBy 58 = .ok (.iaload, 1) := by decide +kernel
theorem dX10_stopsBy_59 : decode cX10_stopsBy 59 = .ok (.iadd, 1) := by decide +kernel
theorem dX10_stopsBy_60 : decode cX10_stopsBy 60 = .ok (.iaload, 1) := by decide +kernel
theorem dX10_stopsBy_61 : decode cX10_stopsBy 61 = .ok (.goto 4, 3) := by decide +kernel
theorem dX10_stopsBy_64 : decode cX10_stopsBy 64 = .ok (.iconst 0, 1) := by decide +kernel
theorem dX10_stopsBy_65 : decode cX10_stopsBy 65 = .ok (.iastore, 1) := by decide +kernel
theorem dX10_stopsBy_66 : decode cX10_stopsBy 66 = .ok (.iinc 3 1, 3) := by decide +kernel
theorem dX10_stopsBy_69 : decode cX10_stopsBy 69 = .ok (.goto (-48), 3) := by decide +kernel
theorem dX10_stopsBy_72 : decode cX10_stopsBy 72 = .ok (.iconst 0, 1) := by decide +kernel
theorem dX10_stopsBy_73 : decode cX10_stopsBy 73 = .ok (.istore_n 3, 1) := by decide +kernel
theorem dX10_stopsBy_74 : decode cX10_stopsBy 74 = .ok (.iload_n 3, 1) := by decide +kernel
theorem dX10_stopsBy_75 : decode cX10_stopsBy 75 = .ok (.bipush 20, 2) := by decide +kernel
theorem dX10_stopsBy_77 : decode cX10_stopsBy 77 = .ok (.if_icmp .ge 22, 3) := by decide +kernel
theorem dX10_stopsBy_80 : decode cX10_stopsBy 80 = .ok (.aload_n 0, 1) := by decide +kernel
theorem dX10_stopsBy_81 : decode cX10_stopsBy 81 = .ok (.aload_n 0, 1) := by decide +kernel
theorem dX10_stopsBy_82 : decode cX10_stopsBy 82 = .ok (.getfield 25, 3) := by decide +kernel
theorem dX10_stopsBy_85 : decode cX10_stopsBy 85 = .ok (.iconst 3, 1) := by decide +kernel
theorem dX10_stopsBy_86 : decode cX10_stopsBy 86 = .ok (.invokevirtual 204, 3) := by decide +kernel
theorem dX10_stopsBy_89 : decode cX10_stopsBy 89 = .ok (.iconst 1, 1) := by decide +kernel
theorem dX10_stopsBy_90 : decode cX10_stopsBy 90 = .ok (.if_icmp .ne 9, 3) := by decide +kernel
theorem dX10_stopsBy_93 : decode cX10_stopsBy 93 = .ok (.iinc 3 1, 3) := by decide +kernel
theorem dX10_stopsBy_96 : decode cX10_stopsBy 96 = .ok (.goto (-22), 3) := by decide +kernel
theorem dX10_stopsBy_99 : decode cX10_stopsBy 99 = .ok (.iload_n 3, 1) := by decide +kernel
theorem dX10_stopsBy_100 : decode cX10_stopsBy 100 = .ok (.ireturn, 1) := by decide +kernel
theorem dX10_share_0 : decode cX10_share 0 = .ok (.aload_n 0, 1) := by decide +kernel
theorem dX10_share_1 : decode cX10_share 1 = .ok (.iload_n 1, 1) := by decide +kernel
theorem dX10_share_2 : decode cX10_share 2 = .ok (.invokevirtual 135, 3) := by decide +kernel
theorem dX10_share_5 : decode cX10_share 5 = .ok (.ifCond .ne 5, 3) := by decide +kernel
theorem dX10_share_8 : decode cX10_share 8 = .ok (.iconst (-1), 1) := by decide +kernel
theorem dX10_share_9 : decode cX10_share 9 = .ok (.ireturn, 1) := by decide +kernel
theorem dX10_share_10 : decode cX10_share 10 = .ok (.aload_n 0, 1) := by decide +kernel
theorem dX10_share_11 : decode cX10_share 11 = .ok (.invokevirtual 238, 3) := by decide +kernel
theorem dX10_share_14 : decode cX10_share 14 = .ok (.istore_n 3, 1) := by decide +kernel
theorem dX10_share_15 : decode cX10_share 15 = .ok (.aload_n 0, 1) := by decide +kernel
theorem dX10_share_16 : decode cX10_share 16 = .ok (.getfield 22, 3) := by decide +kernel
theorem dX10_share_19 : decode cX10_share 19 = .ok (.bipush 26, 2) := by decide +kernel
theorem dX10_share_21 : decode cX10_share 21 = .ok (.iload_n 1, 1) := by decide +kernel
theorem dX10_share_22 : decode cX10_share 22 = .ok (.iadd, 1) := by decide +kernel
theorem dX10_share_23 : decode cX10_share 23 = .ok (.iaload, 1) := by decide +kernel
theorem dX10_share_24 : decode cX10_share 24 = .ok (.ifCond .eq 9, 3) := by decide +kernel
theorem dX10_share_27 : decode cX10_share 27 = .ok (.iload_n 3, 1) := by decide +kernel
theorem dX10_share_28 : decode cX10_share 28 = .ok (.bipush 6, 2) := by decide +kernel
theorem dX10_share_30 : decode cX10_share 30 = .ok (.if_icmp .le 6, 3) := by decide +kernel
theorem dX10_share_33 : decode cX10_share 33 = .ok (.bipush (-3), 2) := by decide +kernel
theorem dX10_share_35 : decode cX10_share 35 = .ok (.ireturn, 1) := by decide +kernel
theorem dX10_share_36 : decode cX10_share 36 = .ok (.iconst 0, 1) := by decide +kernel
theorem dX10_share_37 : decode cX10_share 37 = .ok (.istore 4, 2) := by decide +kernel
theorem dX10_share_39 : decode cX10_share 39 = .ok (.iconst 0, 1) := by decide +kernel
theorem dX10_share_40 : decode cX10_share 40 = .ok (.istore 5, 2) := by decide +kernel
theorem dX10_share_42 : decode cX10_share 42 = .ok (.iload 5, 2) := by decide +kernel
theorem dX10_share_44 : decode cX10_share 44 = .ok (.iload_n 3, 1) := by decide +kernel
theorem dX10_share_45 : decode cX10_share 45 = .ok (.if_icmp .ge 29, 3) := by decide +kernel
theorem dX10_share_48 : decode cX10_share 48 = .ok (.aload_n 0, 1) := by decide +kernel
theorem dX10_share_49 : decode cX10_share 49 = .ok (.getfield 47, 3) := by decide +kernel
theorem dX10_share_52 : decode cX10_share 52 = .ok (.iload 5, 2) := by decide +kernel
theorem dX10_share_54 : decode cX10_share 54 = .ok (.iaload, 1) := by decide +kernel
theorem dX10_share_55 : decode cX10_share 55 = .ok (.iload_n 1, 1) := by decide +kernel
theorem dX10_share_56 : decode cX10_share 56 = .ok (.if_icmp .ne 8, 3) := by decide +kernel
theorem dX10_share_59 : decode cX10_share 59 = .ok (.iload 5, 2) := by decide +kernel
theorem dX10_share_61 : decode cX10_share 61 = .ok (.goto 5, 3) := by decide +kernel
theorem dX10_share_64 : decode cX10_share 64 = .ok (.iload 4, 2) := by decide +kernel
theorem dX10_share_66 : decode cX10_share 66 = .ok (.istore 4, 2) := by decide +kernel
theorem dX10_share_68 : decode cX10_share 68 = .ok (.iinc 5 1, 3) := by decide +kernel
theorem dX10_share_71 : decode cX10_share 71 = .ok (.goto (-29), 3) := by decide +kernel
theorem dX10_share_74 : decode cX10_share 74 = .ok (.iconst 0, 1) := by decide +kernel
theorem dX10_share_75 : decode cX10_share 75 = .ok (.istore 5, 2) := by decide +kernel
theorem dX10_share_77 : decode cX10_share 77 = .ok (.iload 5, 2) := by decide +kernel
theorem dX10_share_79 : decode cX10_share 79 = .ok (.iconst 1, 1) := by decide +kernel
theorem dX10_share_80 : decode cX10_share 80 = .ok (.iload_n 3, 1) := by decide +kernel
theorem dX10_share_81 : decode cX10_share 81 = .ok (.ishl, 1) := by decide +kernel
theorem dX10_share_82 : decode cX10_share 82 = .ok (.if_icmp .ge 23, 3) := by decide +kernel
theorem dX10_share_85 : decode cX10_share 85 = .ok (.aload_n 0, 1) := by decide +kernel
theorem dX10_share_86 : decode cX10_share 86 = .ok (.getfield 50, 3) := by decide +kernel
theorem dX10_share_89 : decode cX10_share 89 = .ok (.iload 5, 2) := by decide +kernel
theorem dX10_share_91 : decode cX10_share 91 = .ok (.aload_n 0, 1) := by decide +kernel
theorem dX10_share_92 : decode cX10_share 92 = .ok (.iload 5, 2) := by decide +kernel
theorem dX10_share_94 : decode cX10_share 94 = .ok (.iload_n 3, 1) := by decide +kernel
theorem dX10_share_95 : decode cX10_share 95 = .ok (.invokevirtual 241, 3) := by decide +kernel
theorem dX10_share_98 : decode cX10_share 98 = .ok (.iastore, 1) := by decide +kernel
theorem dX10_share_99 : decode cX10_share 99 = .ok (.iinc 5 1, 3) := by decide +kernel
theorem dX10_share_102 : decode cX10_share 102 = .ok (.goto (-25), 3) := by decide +kernel
theorem dX10_share_105 : decode cX10_share 105 = .ok (.iconst 0, 1) := by decide +kernel
theorem dX10_share_106 : decode cX10_share 106 = .ok (.istore 5, 2) := by decide +kernel
theorem dX10_share_108 : decode cX10_share 108 = .ok (.iconst 0, 1) := by decide +kernel
theorem dX10_share_109 : decode cX10_share 109 = .ok (.istore 6, 2) := by decide +kernel
theorem dX10_share_111 : decode cX10_share 111 = .ok (.iload 6, 2) := by decide +kernel
theorem dX10_share_113 : decode cX10_share 113 = .ok (.iconst 1, 1) := by decide +kernel
theorem dX10_share_114 : decode cX10_share 114 = .ok (.iload_n 3, 1) := by decide +kernel
theorem dX10_share_115 : decode cX10_share 115 = .ok (.ishl, 1) := by decide +kernel
theorem dX10_share_116 : decode cX10_share 116 = .ok (.if_icmp .ge 67, 3) := by decide +kernel
theorem dX10_share_119 : decode cX10_share 119 = .ok (.iload 6, 2) := by decide +kernel
theorem dX10_share_121 : decode cX10_share 121 = .ok (.iload 4, 2) := by decide +kernel
theorem dX10_share_123 : decode cX10_share 123 = .ok (.invokestatic 163, 3) := by decide +kernel
theorem dX10_share_126 : decode cX10_share 126 = .ok (.ifCond .ne 51, 3) := by decide +kernel
theorem dX10_share_129 : decode cX10_share 129 = .ok (.iload 6, 2) := by decide +kernel
theorem dX10_share_131 : decode cX10_share 131 = .ok (.invokestatic 160, 3) := by decide +kernel
theorem dX10_share_134 : decode cX10_share 134 = .ok (.istore 7, 2) := by decide +kernel
theorem dX10_share_136 : decode cX10_share 136 = .ok (.iload 5, 2) := by decide +kernel
theorem dX10_share_138 : decode cX10_share 138 = .ok (.iload 7, 2) := by decide +kernel
theorem dX10_share_140 : decode cX10_share 140 = .ok (.invokestatic 244, 3) := by decide +kernel
theorem dX10_share_143 : decode cX10_share 143 = .ok (.iload_n 3, 1) := by decide +kernel
theorem dX10_share_144 : decode cX10_share 144 = .ok (.iconst 1, 1) := by decide +kernel
theorem dX10_share_145 : decode cX10_share 145 = .ok (.isub, 1) := by decide +kernel
theorem dX10_share_146 : decode cX10_share 146 = .ok (.iload 7, 2) := by decide +kernel
theorem dX10_share_148 : decode cX10_share 148 = .ok (.isub, 1) := by decide +kernel
theorem dX10_share_149 : decode cX10_share 149 = .ok (.invokestatic 244, 3) := by decide +kernel
theorem dX10_share_152 : decode cX10_share 152 = .ok (.imul, 1) := by decide +kernel
theorem dX10_share_153 : decode cX10_share 153 = .ok (.aload_n 0, 1) := by decide +kernel
theorem dX10_share_154 : decode cX10_share 154 = .ok (.getfield 50, 3) := by decide +kernel
theorem dX10_share_157 : decode cX10_share 157 = .ok (.iload 6, 2) := by decide +kernel
theorem dX10_share_159 : decode cX10_share 159 = .ok (.iconst 1, 1) := by decide +kernel
theorem dX10_share_160 : decode cX10_share 160 = .ok (.iload 4, 2) := by decide +kernel
theorem dX10_share_162 : decode cX10_share 162 = .ok (.ishl, 1) := by decide +kernel
theorem dX10_share_163 : decode cX10_share 163 = .ok (.ior, 1) := by decide +kernel
theorem dX10_share_164 : decode cX10_share 164 = .ok (.iaload, 1) := by decide +kernel
theorem dX10_share_165 : decode cX10_share 165 = .ok (.aload_n 0, 1) := by decide +kernel
theorem dX10_share_166 : decode cX10_share 166 = .ok (.getfield 50, 3) := by decide +kernel
theorem dX10_share_169 : decode cX10_share 169 = .ok (.iload 6, 2) := by decide +kernel
theorem dX10_share_171 : decode cX10_share 171 = .ok (.iaload, 1) := by decide +kernel
theorem dX10_share_172 : decode cX10_share 172 = .ok (.isub, 1) := by decide +kernel
theorem dX10_share_173 : decode cX10_share 173 = .ok (.imul, 1) := by decide +kernel
theorem dX10_share_174 : decode cX10_share 174 = .ok (.iadd, 1) := by decide +kernel
theorem dX10_share_175 : decode cX10_share 175 = .ok (.istore 5, 2) := by decide +kernel
theorem dX10_share_177 : decode cX10_share 177 = .ok (.iinc 6 1, 3) := by decide +kernel
theorem dX10_share_180 : decode cX10_share 180 = .ok (.goto (-69), 3) := by decide +kernel
theorem dX10_share_183 : decode cX10_share 183 = .ok (.iload 5, 2) := by decide +kernel
theorem dX10_share_185 : decode cX10_share 185 = .ok (.iload_n 3, 1) := by decide +kernel
theorem dX10_share_186 : decode cX10_share 186 = .ok (.invokestatic 244, 3) := by decide +kernel
theorem dX10_share_189 : decode cX10_share 189 = .ok (.iload_n 2, 1) := by decide +kernel
theorem dX10_share_190 : decode cX10_share 190 = .ok (.invokestatic 247, 3) := by decide +kernel
theorem dX10_share_193 : decode cX10_share 193 = .ok (.ireturn, 1) := by decide +kernel
theorem dX10_chance_0 : decode cX10_chance 0 = .ok (.iload_n 1, 1) := by decide +kernel
theorem dX10_chance_1 : decode cX10_chance 1 = .ok (.i2l, 1) := by decide +kernel
theorem dX10_chance_2 : decode cX10_chance 2 = .ok (.lconst 0, 1) := by decide +kernel
theorem dX10_chance_3 : decode cX10_chance 3 = .ok (.ldc2_w 251, 3) := by decide +kernel
theorem dX10_chance_6 : decode cX10_chance 6 = .ok (.invokestatic 73, 3) := by decide +kernel
theorem dX10_chance_9 : decode cX10_chance 9 = .ok (.ifCond .eq 15, 3) := by decide +kernel
theorem dX10_chance_12 : decode cX10_chance 12 = .ok (.iload_n 2, 1) := by decide +kernel
theorem dX10_chance_13 : decode cX10_chance 13 = .ok (.i2l, 1) := by decide +kernel
theorem dX10_chance_14 : decode cX10_chance 14 = .ok (.lconst 0, 1) := by decide +kernel
theorem dX10_chance_15 : decode cX10_chance 15 = .ok (.ldc2_w 253, 3) := by decide +kernel
theorem dX10_chance_18 : decode cX10_chance 18 = .ok (.invokestatic 73, 3) := by decide +kernel
theorem dX10_chance_21 : decode cX10_chance 21 = .ok (.ifCond .ne 6, 3) := by decide +kernel
theorem dX10_chance_24 : decode cX10_chance 24 = .ok (.bipush (-2), 2) := by decide +kernel
theorem dX10_chance_26 : decode cX10_chance 26 = .ok (.ireturn, 1) := by decide +kernel
theorem dX10_chance_27 : decode cX10_chance 27 = .ok (.aload_n 0, 1) := by decide +kernel
theorem dX10_chance_28 : decode cX10_chance 28 = .ok (.invokevirtual 238, 3) := by decide +kernel
theorem dX10_chance_31 : decode cX10_chance 31 = .ok (.istore 4, 2) := by decide +kernel
theorem dX10_chance_33 : decode cX10_chance 33 = .ok (.iload 4, 2) := by decide +kernel
theorem dX10_chance_35 : decode cX10_chance 35 = .ok (.bipush 6, 2) := by decide +kernel
theorem dX10_chance_37 : decode cX10_chance 37 = .ok (.if_icmp .le 6, 3) := by decide +kernel
theorem dX10_chance_40 : decode cX10_chance 40 = .ok (.bipush (-3), 2) := by decide +kernel
theorem dX10_chance_42 : decode cX10_chance 42 = .ok (.ireturn, 1) := by decide +kernel
theorem dX10_chance_43 : decode cX10_chance 43 = .ok (.iconst 0, 1) := by decide +kernel
theorem dX10_chance_44 : decode cX10_chance 44 = .ok (.istore 5, 2) := by decide +kernel
theorem dX10_chance_46 : decode cX10_chance 46 = .ok (.iconst 0, 1) := by decide +kernel
theorem dX10_chance_47 : decode cX10_chance 47 = .ok (.istore 6, 2) := by decide +kernel
theorem dX10_chance_49 : decode cX10_chance 49 = .ok (.iload 6, 2) := by decide +kernel
theorem dX10_chance_51 : decode cX10_chance 51 = .ok (.iconst 1, 1) := by decide +kernel
theorem dX10_chance_52 : decode cX10_chance 52 = .ok (.iload 4, 2) := by decide +kernel
theorem dX10_chance_54 : decode cX10_chance 54 = .ok (.ishl, 1) := by decide +kernel
theorem dX10_chance_55 : decode cX10_chance 55 = .ok (.if_icmp .ge 55, 3) := by decide +kernel
theorem dX10_chance_58 : decode cX10_chance 58 = .ok (.iload 5, 2) := by decide +kernel
theorem dX10_chance_60 : decode cX10_chance 60 = .ok (.aload_n 0, 1) := by decide +kernel
theorem dX10_chance_61 : decode cX10_chance 61 = .ok (.iload 6, 2) := by decide +kernel
theorem dX10_chance_63 : decode cX10_chance 63 = .ok (.iload 4, 2) := by decide +kernel
theorem dX10_chance_65 : decode cX10_chance 65 = .ok (.invokevirtual 241, 3) := by decide +kernel
theorem dX10_chance_68 : decode cX10_chance 68 = .ok (.iload_n 1, 1) := by decide +kernel
theorem dX10_chance_69 : decode cX10_chance 69 = .ok (.if_icmp .lt 31, 3) := by decide +kernel
theorem dX10_chance_72 : decode cX10_chance 72 = .ok (.bipush 10, 2) := by decide +kernel
theorem dX10_chance_74 : decode cX10_chance 74 = .ok (.iload_n 2, 1) := by decide +kernel
theorem dX10_chance_75 : decode cX10_chance 75 = .ok (.isub, 1) := by decide +kernel
theorem dX10_chance_76 : decode cX10_chance 76 = .ok (.iload 6, 2) := by decide +kernel
theorem dX10_chance_78 : decode cX10_chance 78 = .ok (.invokestatic 160, 3) := by decide +kernel
theorem dX10_chance_81 : decode cX10_chance 81 = .ok (.invokestatic 255, 3) := by decide +kernel
theorem dX10_chance_84 : decode cX10_chance 84 = .ok (.iload_n 2, 1) := by decide +kernel
theorem dX10_chance_85 : decode cX10_chance 85 = .ok (.iload 4, 2) := by decide +kernel
theorem dX10_chance_87 : decode cX10_chance 87 = .ok (.iload 6, 2) := by decide +kernel
theorem dX10_chance_89 : decode cX10_chance 89 = .ok (.invokestatic 160, 3) := by decide +kernel
theorem dX10_chance_92 : decode cX10_chance 92 = .ok (.isub, 1) := by decide +kernel
theorem dX10_chance_93 : decode cX10_chance 93 = .ok (.invokestatic 255, 3) := by decide +kernel
theorem dX10_chance_96 : decode cX10_chance 96 = .ok (.imul, 1) := by decide +kernel
theorem dX10_chance_97 : decode cX10_chance 97 = .ok (.goto 4, 3) := by decide +kernel
theorem dX10_chance_100 : decode cX10_chance 100 = .ok (.iconst 0, 1) := by decide +kernel
theorem dX10_chance_101 : decode cX10_chance 101 = .ok (.iadd, 1) := by decide +kernel
theorem dX10_chance_102 : decode cX10_chance 102 = .ok (.istore 5, 2) := by decide +kernel
theorem dX10_chance_104 : decode cX10_chance 104 = .ok (.iinc 6 1, 3) := by decide +kernel
theorem dX10_chance_107 : decode cX10_chance 107 = .ok (.goto (-58), 3) := by decide +kernel
theorem dX10_chance_110 : decode cX10_chance 110 = .ok (.iload 5, 2) := by decide +kernel
theorem dX10_chance_112 : decode cX10_chance 112 = .ok (.bipush 10, 2) := by decide +kernel
theorem dX10_chance_114 : decode cX10_chance 114 = .ok (.iload 4, 2) := by decide +kernel
theorem dX10_chance_116 : decode cX10_chance 116 = .ok (.invokestatic 255, 3) := by decide +kernel
theorem dX10_chance_119 : decode cX10_chance 119 = .ok (.iload_n 3, 1) := by decide +kernel
theorem dX10_chance_120 : decode cX10_chance 120 = .ok (.invokestatic 247, 3) := by decide +kernel
theorem dX10_chance_123 : decode cX10_chance 123 = .ok (.ireturn, 1) := by decide +kernel
theorem dX10_seed_0 : decode cX10_seed 0 = .ok (.aload_n 0, 1) := by decide +kernel
theorem dX10_seed_1 : decode cX10_seed 1 = .ok (.getfield 258, 3) := by decide +kernel
theorem dX10_seed_4 : decode cX10_seed 4 = .ok (.lstore_n 3, 1) := by decide +kernel
theorem dX10_seed_5 : decode cX10_seed 5 = .ok (.aload_n 0, 1) := by decide +kernel
theorem dX10_seed_6 : decode cX10_seed 6 = .ok (.lload_n 1, 1) := by decide +kernel
theorem dX10_seed_7 : decode cX10_seed 7 = .ok (.putfield 258, 3) := by decide +kernel
theorem dX10_seed_10 : decode cX10_seed 10 = .ok (.lload_n 3, 1) := by decide +kernel
theorem dX10_seed_11 : decode cX10_seed 11 = .ok (.lreturn, 1) := by decide +kernel
theorem dX10_drawn_0 : decode cX10_drawn 0 = .ok (.iload_n 1, 1) := by decide +kernel
theorem dX10_drawn_1 : decode cX10_drawn 1 = .ok (.i2l, 1) := by decide +kernel
theorem dX10_drawn_2 : decode cX10_drawn 2 = .ok (.lconst 1, 1) := by decide +kernel
theorem dX10_drawn_3 : decode cX10_drawn 3 = .ok (.ldc2_w 253, 3) := by decide +kernel
theorem dX10_drawn_6 : decode cX10_drawn 6 = .ok (.invokestatic 73, 3) := by decide +kernel
theorem dX10_drawn_9 : decode cX10_drawn 9 = .ok (.ifCond .ne 6, 3) := by decide +kernel
theorem dX10_drawn_12 : decode cX10_drawn 12 = .ok (.bipush (-2), 2) := by decide +kernel
theorem dX10_drawn_14 : decode cX10_drawn 14 = .ok (.ireturn, 1) := by decide +kernel
theorem dX10_drawn_15 : decode cX10_drawn 15 = .ok (.iconst 0, 1) := by decide +kernel
theorem dX10_drawn_16 : decode cX10_drawn 16 = .ok (.istore_n 2, 1) := by decide +kernel
theorem dX10_drawn_17 : decode cX10_drawn 17 = .ok (.iconst 0, 1) := by decide +kernel
theorem dX10_drawn_18 : decode cX10_drawn 18 = .ok (.istore_n 3, 1) := by decide +kernel
theorem dX10_drawn_19 : decode cX10_drawn 19 = .ok (.iload_n 3, 1) := by decide +kernel
theorem dX10_drawn_20 : decode cX10_drawn 20 = .ok (.iload_n 1, 1) := by decide +kernel
theorem dX10_drawn_21 : decode cX10_drawn 21 = .ok (.if_icmp .ge 91, 3) := by decide +kernel
theorem dX10_drawn_24 : decode cX10_drawn 24 = .ok (.aload_n 0, 1) := by decide +kernel
theorem dX10_drawn_25 : decode cX10_drawn 25 = .ok (.aload_n 0, 1) := by decide +kernel
theorem dX10_drawn_26 : decode cX10_drawn 26 = .ok (.getfield 258, 3) := by decide +kernel
theorem dX10_drawn_29 : decode cX10_drawn 29 = .ok (.ldc2_w 262, 3) := by decide +kernel
theorem dX10_drawn_32 : decode cX10_drawn 32 = .ok (.lmul, 1) := by decide +kernel
theorem dX10_drawn_33 : decode cX10_drawn 33 = .ok (.ldc2_w 264, 3) := by decide +kernel
theorem dX10_drawn_36 : decode cX10_drawn 36 = .ok (.ladd, 1) := by decide +kernel
theorem dX10_drawn_37 : decode cX10_drawn 37 = .ok (.putfield 258, 3) := by decide +kernel
theorem dX10_drawn_40 : decode cX10_drawn 40 = .ok (.aload_n 0, 1) := by decide +kernel
theorem dX10_drawn_41 : decode cX10_drawn 41 = .ok (.getfield 258, 3) := by decide +kernel
theorem dX10_drawn_44 : decode cX10_drawn 44 = .ok (.bipush 33, 2) := by decide +kernel
theorem dX10_drawn_46 : decode cX10_drawn 46 = .ok (.lushr, 1) := by decide +kernel
theorem dX10_drawn_47 : decode cX10_drawn 47 = .ok (.l2i, 1) := by decide +kernel
theorem dX10_drawn_48 : decode cX10_drawn 48 = .ok (.istore 4, 2) := by decide +kernel
theorem dX10_drawn_50 : decode cX10_drawn 50 = .ok (.aload_n 0, 1) := by decide +kernel
theorem dX10_drawn_51 : decode cX10_drawn 51 = .ok (.getfield 22, 3) := by decide +kernel
theorem dX10_drawn_54 : decode cX10_drawn 54 = .ok (.aload_n 0, 1) := by decide +kernel
theorem dX10_drawn_55 : decode cX10_drawn 55 = .ok (.getfield 25, 3) := by decide +kernel
theorem dX10_drawn_58 : decode cX10_drawn 58 = .ok (.invokestatic 218, 3) := by decide +kernel
theorem dX10_drawn_61 : decode cX10_drawn 61 = .ok (.iconst 0, 1) := by decide +kernel
theorem dX10_drawn_62 : decode cX10_drawn 62 = .ok (.istore 5, 2) := by decide +kernel
theorem dX10_drawn_64 : decode cX10_drawn 64 = .ok (.iload 5, 2) := by decide +kernel
theorem dX10_drawn_66 : decode cX10_drawn 66 = .ok (.iconst 4, 1) := by decide +kernel
theorem dX10_drawn_67 : decode cX10_drawn 67 = .ok (.if_icmp .ge 26, 3) := by decide +kernel
theorem dX10_drawn_70 : decode cX10_drawn 70 = .ok (.aload_n 0, 1) := by decide +kernel
theorem dX10_drawn_71 : decode cX10_drawn 71 = .ok (.getfield 25, 3) := by decide +kernel
theorem dX10_drawn_74 : decode cX10_drawn 74 = .ok (.iload 5, 2) := by decide +kernel
theorem dX10_drawn_76 : decode cX10_drawn 76 = .ok (.iload 4, 2) := by decide +kernel
theorem dX10_drawn_78 : decode cX10_drawn 78 = .ok (.iconst 4, 1) := by decide +kernel
theorem dX10_drawn_79 : decode cX10_drawn 79 = .ok (.iload 5, 2) := by decide +kernel
theorem dX10_drawn_81 : decode cX10_drawn 81 = .ok (.imul, 1) := by decide +kernel
theorem dX10_drawn_82 : decode cX10_drawn 82 = .ok (.ishr, 1) := by decide +kernel
theorem dX10_drawn_83 : decode cX10_drawn 83 = .ok (.bipush 15, 2) := by decide +kernel
theorem dX10_drawn_85 : decode cX10_drawn 85 = .ok (.iand, 1) := by decide +kernel
theorem dX10_drawn_86 : decode cX10_drawn 86 = .ok (.iastore, 1) := by decide +kernel
theorem dX10_drawn_87 : decode cX10_drawn 87 = .ok (.iinc 5 1, 3) := by decide +kernel
theorem dX10_drawn_90 : decode cX10_drawn 90 = .ok (.goto (-26), 3) := by decide +kernel
theorem dX10_drawn_93 : decode cX10_drawn 93 = .ok (.aload_n 0, 1) := by decide +kernel
theorem dX10_drawn_94 : decode cX10_drawn 94 = .ok (.invokevirtual 222, 3) := by decide +kernel
theorem dX10_drawn_97 : decode cX10_drawn 97 = .ok (.istore 5, 2) := by decide +kernel
theorem dX10_drawn_99 : decode cX10_drawn 99 = .ok (.iload_n 2, 1) := by decide +kernel
theorem dX10_drawn_100 : decode cX10_drawn 100 = .ok (.aload_n 0, 1) := by decide +kernel
theorem dX10_drawn_101 : decode cX10_drawn 101 = .ok (.getfield 186, 3) := by decide +kernel
theorem dX10_drawn_104 : decode cX10_drawn 104 = .ok (.iadd, 1) := by decide +kernel
theorem dX10_drawn_105 : decode cX10_drawn 105 = .ok (.istore_n 2, 1) := by decide +kernel
theorem dX10_drawn_106 : decode cX10_drawn 106 = .ok (.iinc 3 1, 3) := by decide +kernel
theorem dX10_drawn_109 : decode cX10_drawn 109 = .ok (.goto (-90), 3) := by decide +kernel
theorem dX10_drawn_112 : decode cX10_drawn 112 = .ok (.iload_n 2, 1) := by decide +kernel
theorem dX10_drawn_113 : decode cX10_drawn 113 = .ok (.ireturn, 1) := by decide +kernel
theorem dX10_keep_0 : decode cX10_keep 0 = .ok (.iload_n 1, 1) := by decide +kernel
theorem dX10_keep_1 : decode cX10_keep 1 = .ok (.i2l, 1) := by decide +kernel
theorem dX10_keep_2 : decode cX10_keep 2 = .ok (.lconst 0, 1) := by decide +kernel
theorem dX10_keep_3 : decode cX10_keep 3 = .ok (.lconst 1, 1) := by decide +kernel
theorem dX10_keep_4 : decode cX10_keep 4 = .ok (.invokestatic 73, 3) := by decide +kernel
theorem dX10_keep_7 : decode cX10_keep 7 = .ok (.ifCond .ne 5, 3) := by decide +kernel
theorem dX10_keep_10 : decode cX10_keep 10 = .ok (.iconst (-1), 1) := by decide +kernel
theorem dX10_keep_11 : decode cX10_keep 11 = .ok (.ireturn, 1) := by decide +kernel
theorem dX10_keep_12 : decode cX10_keep 12 = .ok (.aload_n 0, 1) := by decide +kernel
theorem dX10_keep_13 : decode cX10_keep 13 = .ok (.getfield 34, 3) := by decide +kernel
theorem dX10_keep_16 : decode cX10_keep 16 = .ok (.iload_n 1, 1) := by decide +kernel
theorem dX10_keep_17 : decode cX10_keep 17 = .ok (.iconst 1, 1) := by decide +kernel
theorem dX10_keep_18 : decode cX10_keep 18 = .ok (.bastore, 1) := by decide +kernel
theorem dX10_keep_19 : decode cX10_keep 19 = .ok (.iconst 0, 1) := by decide +kernel
theorem dX10_keep_20 : decode cX10_keep 20 = .ok (.istore_n 2, 1) := by decide +kernel
theorem dX10_keep_21 : decode cX10_keep 21 = .ok (.iload_n 2, 1) := by decide +kernel
theorem dX10_keep_22 : decode cX10_keep 22 = .ok (.sipush 128, 3) := by decide +kernel
theorem dX10_keep_25 : decode cX10_keep 25 = .ok (.if_icmp .ge 27, 3) := by decide +kernel
theorem dX10_keep_28 : decode cX10_keep 28 = .ok (.aload_n 0, 1) := by decide +kernel
theorem dX10_keep_29 : decode cX10_keep 29 = .ok (.getfield 31, 3) := by decide +kernel
theorem dX10_keep_32 : decode cX10_keep 32 = .ok (.sipush 128, 3) := by decide +kernel
theorem dX10_keep_35 : decode cX10_keep 35 = .ok (.iload_n 1, 1) := by decide +kernel
theorem dX10_keep_36 : decode cX10_keep 36 = .ok (.imul, 1) := by decide +kernel
theorem dX10_keep_37 : decode cX10_keep 37 = .ok (.iload_n 2, 1) := by decide +kernel
theorem dX10_keep_38 : decode cX10_keep 38 = .ok (.iadd, 1) := by decide +kernel
theorem dX10_keep_39 : decode cX10_keep 39 = .ok (.aload_n 0, 1) := by decide +kernel
theorem dX10_keep_40 : decode cX10_keep 40 = .ok (.getfield 22, 3) := by decide +kernel
theorem dX10_keep_43 : decode cX10_keep 43 = .ok (.iload_n 2, 1) := by decide +kernel
theorem dX10_keep_44 : decode cX10_keep 44 = .ok (.iaload, 1) := by decide +kernel
theorem dX10_keep_45 : decode cX10_keep 45 = .ok (.iastore, 1) := by decide +kernel
theorem dX10_keep_46 : decode cX10_keep 46 = .ok (.iinc 2 1, 3) := by decide +kernel
theorem dX10_keep_49 : decode cX10_keep 49 = .ok (.goto (-28), 3) := by decide +kernel
theorem dX10_keep_52 : decode cX10_keep 52 = .ok (.aload_n 0, 1) := by decide +kernel
theorem dX10_keep_53 : decode cX10_keep 53 = .ok (.getfield 22, 3) := by decide +kernel
theorem dX10_keep_56 : decode cX10_keep 56 = .ok (.bipush 127, 2) := by decide +kernel
theorem dX10_keep_58 : decode cX10_keep 58 = .ok (.iaload, 1) := by decide +kernel
theorem dX10_keep_59 : decode cX10_keep 59 = .ok (.ireturn, 1) := by decide +kernel
theorem dX10_again_0 : decode cX10_again 0 = .ok (.iload_n 1, 1) := by decide +kernel
theorem dX10_again_1 : decode cX10_again 1 = .ok (.i2l, 1) := by decide +kernel
theorem dX10_again_2 : decode cX10_again 2 = .ok (.lconst 0, 1) := by decide +kernel
theorem dX10_again_3 : decode cX10_again 3 = .ok (.lconst 1, 1) := by decide +kernel
theorem dX10_again_4 : decode cX10_again 4 = .ok (.invokestatic 73, 3) := by decide +kernel
theorem dX10_again_7 : decode cX10_again 7 = .ok (.ifCond .ne 5, 3) := by decide +kernel
theorem dX10_again_10 : decode cX10_again 10 = .ok (.iconst (-1), 1) := by decide +kernel
theorem dX10_again_11 : decode cX10_again 11 = .ok (.ireturn, 1) := by decide +kernel
theorem dX10_again_12 : decode cX10_again 12 = .ok (.aload_n 0, 1) := by decide +kernel
theorem dX10_again_13 : decode cX10_again 13 = .ok (.getfield 34, 3) := by decide +kernel
theorem dX10_again_16 : decode cX10_again 16 = .ok (.iload_n 1, 1) := by decide +kernel
theorem dX10_again_17 : decode cX10_again 17 = .ok (.baload, 1) := by decide +kernel
theorem dX10_again_18 : decode cX10_again 18 = .ok (.ifCond .ne 6, 3) := by decide +kernel
theorem dX10_again_21 : decode cX10_again 21 = .ok (.bipush (-3), 2) := by decide +kernel
theorem dX10_again_23 : decode cX10_again 23 = .ok (.ireturn, 1) := by decide +kernel
theorem dX10_again_24 : decode cX10_again 24 = .ok (.iconst 0, 1) := by decide +kernel
theorem dX10_again_25 : decode cX10_again 25 = .ok (.istore_n 2, 1) := by decide +kernel
theorem dX10_again_26 : decode cX10_again 26 = .ok (.iload_n 2, 1) := by decide +kernel
theorem dX10_again_27 : decode cX10_again 27 = .ok (.sipush 128, 3) := by decide +kernel
theorem dX10_again_30 : decode cX10_again 30 = .ok (.if_icmp .ge 27, 3) := by decide +kernel
theorem dX10_again_33 : decode cX10_again 33 = .ok (.aload_n 0, 1) := by decide +kernel
theorem dX10_again_34 : decode cX10_again 34 = .ok (.getfield 22, 3) := by decide +kernel
theorem dX10_again_37 : decode cX10_again 37 = .ok (.iload_n 2, 1) := by decide +kernel
theorem dX10_again_38 : decode cX10_again 38 = .ok (.aload_n 0, 1) := by decide +kernel
theorem dX10_again_39 : decode cX10_again 39 = .ok (.getfield 31, 3) := by decide +kernel
theorem dX10_again_42 : decode cX10_again 42 = .ok (.sipush 128, 3) := by decide +kernel
theorem dX10_again_45 : decode cX10_again 45 = .ok (.iload_n 1, 1) := by decide +kernel
theorem dX10_again_46 : decode cX10_again 46 = .ok (.imul, 1) := by decide +kernel
theorem dX10_again_47 : decode cX10_again 47 = .ok (.iload_n 2, 1) := by decide +kernel
theorem dX10_again_48 : decode cX10_again 48 = .ok (.iadd, 1) := by decide +kernel
theorem dX10_again_49 : decode cX10_again 49 = .ok (.iaload, 1) := by decide +kernel
theorem dX10_again_50 : decode cX10_again 50 = .ok (.iastore, 1) := by decide +kernel
theorem dX10_again_51 : decode cX10_again 51 = .ok (.iinc 2 1, 3) := by decide +kernel
theorem dX10_again_54 : decode cX10_again 54 = .ok (.goto (-28), 3) := by decide +kernel
theorem dX10_again_57 : decode cX10_again 57 = .ok (.aload_n 0, 1) := by decide +kernel
theorem dX10_again_58 : decode cX10_again 58 = .ok (.iconst 0, 1) := by decide +kernel
theorem dX10_again_59 : decode cX10_again 59 = .ok (.putfield 132, 3) := by decide +kernel
theorem dX10_again_62 : decode cX10_again 62 = .ok (.aload_n 0, 1) := by decide +kernel
theorem dX10_again_63 : decode cX10_again 63 = .ok (.getfield 22, 3) := by decide +kernel
theorem dX10_again_66 : decode cX10_again 66 = .ok (.bipush 127, 2) := by decide +kernel
theorem dX10_again_68 : decode cX10_again 68 = .ok (.iaload, 1) := by decide +kernel
theorem dX10_again_69 : decode cX10_again 69 = .ok (.ireturn, 1) := by decide +kernel
