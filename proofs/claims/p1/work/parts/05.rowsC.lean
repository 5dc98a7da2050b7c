theorem dX12_init_0 : decode cX12_init 0 = .ok (.aload_n 0, 1) := by decide +kernel
theorem dX12_init_1 : decode cX12_init 1 = .ok (.invokespecial 1, 3) := by decide +kernel
theorem dX12_init_4 : decode cX12_init 4 = .ok (.aload_n 0, 1) := by decide +kernel
theorem dX12_init_5 : decode cX12_init 5 = .ok (.iconst 4, 1) := by decide +kernel
theorem dX12_init_6 : decode cX12_init 6 = .ok (.newarray .int, 2) := by decide +kernel
theorem dX12_init_8 : decode cX12_init 8 = .ok (.putfield 7, 3) := by decide +kernel
theorem dX12_init_11 : decode cX12_init 11 = .ok (.aload_n 0, 1) := by decide +kernel
theorem dX12_init_12 : decode cX12_init 12 = .ok (.iconst 4, 1) := by decide +kernel
theorem dX12_init_13 : decode cX12_init 13 = .ok (.newarray .int, 2) := by decide +kernel
theorem dX12_init_15 : decode cX12_init 15 = .ok (.putfield 13, 3) := by decide +kernel
theorem dX12_init_18 : decode cX12_init 18 = .ok (.aload_n 0, 1) := by decide +kernel
theorem dX12_init_19 : decode cX12_init 19 = .ok (.sipush 240, 3) := by decide +kernel
theorem dX12_init_22 : decode cX12_init 22 = .ok (.newarray .long, 2) := by decide +kernel
theorem dX12_init_24 : decode cX12_init 24 = .ok (.putfield 16, 3) := by decide +kernel
theorem dX12_init_27 : decode cX12_init 27 = .ok (.aload_n 0, 1) := by decide +kernel
theorem dX12_init_28 : decode cX12_init 28 = .ok (.bipush 60, 2) := by decide +kernel
theorem dX12_init_30 : decode cX12_init 30 = .ok (.newarray .long, 2) := by decide +kernel
theorem dX12_init_32 : decode cX12_init 32 = .ok (.putfield 20, 3) := by decide +kernel
theorem dX12_init_35 : decode cX12_init 35 = .ok (.aload_n 0, 1) := by decide +kernel
theorem dX12_init_36 : decode cX12_init 36 = .ok (.sipush 600, 3) := by decide +kernel
theorem dX12_init_39 : decode cX12_init 39 = .ok (.newarray .byte, 2) := by decide +kernel
theorem dX12_init_41 : decode cX12_init 41 = .ok (.putfield 23, 3) := by decide +kernel
theorem dX12_init_44 : decode cX12_init 44 = .ok (.aload_n 0, 1) := by decide +kernel
theorem dX12_init_45 : decode cX12_init 45 = .ok (.iconst (-1), 1) := by decide +kernel
theorem dX12_init_46 : decode cX12_init 46 = .ok (.putfield 27, 3) := by decide +kernel
theorem dX12_init_49 : decode cX12_init 49 = .ok (.aload_n 0, 1) := by decide +kernel
theorem dX12_init_50 : decode cX12_init 50 = .ok (.iconst 5, 1) := by decide +kernel
theorem dX12_init_51 : decode cX12_init 51 = .ok (.newarray .int, 2) := by decide +kernel
theorem dX12_init_53 : decode cX12_init 53 = .ok (.putfield 31, 3) := by decide +kernel
theorem dX12_init_56 : decode cX12_init 56 = .ok (.aload_n 0, 1) := by decide +kernel
theorem dX12_init_57 : decode cX12_init 57 = .ok (.bipush 35, 2) := by decide +kernel
theorem dX12_init_59 : decode cX12_init 59 = .ok (.newarray .int, 2) := by decide +kernel
theorem dX12_init_61 : decode cX12_init 61 = .ok (.putfield 34, 3) := by decide +kernel
theorem dX12_init_64 : decode cX12_init 64 = .ok (.aload_n 0, 1) := by decide +kernel
theorem dX12_init_65 : decode cX12_init 65 = .ok (.bipush 30, 2) := by decide +kernel
theorem dX12_init_67 : decode cX12_init 67 = .ok (.newarray .int, 2) := by decide +kernel
theorem dX12_init_69 : decode cX12_init 69 = .ok (.putfield 37, 3) := by decide +kernel
theorem dX12_init_72 : decode cX12_init 72 = .ok (.aload_n 0, 1) := by decide +kernel
theorem dX12_init_73 : decode cX12_init 73 = .ok (.bipush 30, 2) := by decide +kernel
theorem dX12_init_75 : decode cX12_init 75 = .ok (.newarray .int, 2) := by decide +kernel
theorem dX12_init_77 : decode cX12_init 77 = .ok (.putfield 40, 3) := by decide +kernel
theorem dX12_init_80 : decode cX12_init 80 = .ok (.aload_n 0, 1) := by decide +kernel
theorem dX12_init_81 : decode cX12_init 81 = .ok (.bipush 30, 2) := by decide +kernel
theorem dX12_init_83 : decode cX12_init 83 = .ok (.newarray .int, 2) := by decide +kernel
theorem dX12_init_85 : decode cX12_init 85 = .ok (.putfield 43, 3) := by decide +kernel
theorem dX12_init_88 : decode cX12_init 88 = .ok (.aload_n 0, 1) := by decide +kernel
theorem dX12_init_89 : decode cX12_init 89 = .ok (.sipush 200, 3) := by decide +kernel
theorem dX12_init_92 : decode cX12_init 92 = .ok (.newarray .int, 2) := by decide +kernel
theorem dX12_init_94 : decode cX12_init 94 = .ok (.putfield 46, 3) := by decide +kernel
theorem dX12_init_97 : decode cX12_init 97 = .ok (.aload_n 0, 1) := by decide +kernel
theorem dX12_init_98 : decode cX12_init 98 = .ok (.iconst 3, 1) := by decide +kernel
theorem dX12_init_99 : decode cX12_init 99 = .ok (.newarray .boolean, 2) := by decide +kernel
theorem dX12_init_101 : decode cX12_init 101 = .ok (.putfield 49, 3) := by decide +kernel
theorem dX12_init_104 : decode cX12_init 104 = .ok (.aload_n 0, 1) := by decide +kernel
theorem dX12_init_105 : decode cX12_init 105 = .ok (.bipush 60, 2) := by decide +kernel
theorem dX12_init_107 : decode cX12_init 107 = .ok (.newarray .int, 2) := by decide +kernel
theorem dX12_init_109 : decode cX12_init 109 = .ok (.putfield 53, 3) := by decide +kernel
theorem dX12_init_112 : decode cX12_init 112 = .ok (.aload_n 0, 1) := by decide +kernel
theorem dX12_init_113 : decode cX12_init 113 = .ok (.ldc 56, 2) := by decide +kernel
theorem dX12_init_115 : decode cX12_init 115 = .ok (.newarray .boolean, 2) := by decide +kernel
theorem dX12_init_117 : decode cX12_init 117 = .ok (.putfield 57, 3) := by decide +kernel
theorem dX12_init_120 : decode cX12_init 120 = .ok (.aload_n 0, 1) := by decide +kernel
theorem dX12_init_121 : decode cX12_init 121 = .ok (.ldc 56, 2) := by decide +kernel
theorem dX12_init_123 : decode cX12_init 123 = .ok (.newarray .int, 2) := by decide +kernel
theorem dX12_init_125 : decode cX12_init 125 = .ok (.putfield 60, 3) := by decide +kernel
theorem dX12_init_128 : decode cX12_init 128 = .ok (.aload_n 0, 1) := by decide +kernel
theorem dX12_init_129 : decode cX12_init 129 = .ok (.ldc 56, 2) := by decide +kernel
theorem dX12_init_131 : decode cX12_init 131 = .ok (.newarray .int, 2) := by decide +kernel
theorem dX12_init_133 : decode cX12_init 133 = .ok (.putfield 63, 3) := by decide +kernel
theorem dX12_init_136 : decode cX12_init 136 = .ok (.aload_n 0, 1) := by decide +kernel
theorem dX12_init_137 : decode cX12_init 137 = .ok (.sipush 400, 3) := by decide +kernel
theorem dX12_init_140 : decode cX12_init 140 = .ok (.newarray .int, 2) := by decide +kernel
theorem dX12_init_142 : decode cX12_init 142 = .ok (.putfield 66, 3) := by decide +kernel
theorem dX12_init_145 : decode cX12_init 145 = .ok (.aload_n 0, 1) := by decide +kernel
theorem dX12_init_146 : decode cX12_init 146 = .ok (.ldc 69, 2) := by decide +kernel
theorem dX12_init_148 : decode cX12_init 148 = .ok (.newarray .long, 2) := by decide +kernel
theorem dX12_init_150 : decode cX12_init 150 = .ok (.putfield 70, 3) := by decide +kernel
theorem dX12_init_153 : decode cX12_init 153 = .ok (.aload_n 0, 1) := by decide +kernel
theorem dX12_init_154 : decode cX12_init 154 = .ok (.ldc 69, 2) := by decide +kernel
theorem dX12_init_156 : decode cX12_init 156 = .ok (.newarray .int, 2) := by decide +kernel
theorem dX12_init_158 : decode cX12_init 158 = .ok (.putfield 73, 3) := by decide +kernel
theorem dX12_init_161 : decode cX12_init 161 = .ok (.aload_n 0, 1) := by decide +kernel
theorem dX12_init_162 : decode cX12_init 162 = .ok (.ldc 69, 2) := by decide +kernel
theorem dX12_init_164 : decode cX12_init 164 = .ok (.newarray .int, 2) := by decide +kernel
theorem dX12_init_166 : decode cX12_init 166 = .ok (.putfield 76, 3) := by decide +kernel
theorem dX12_init_169 : decode cX12_init 169 = .ok (.aload_n 0, 1) := by decide +kernel
theorem dX12_init_170 : decode cX12_init 170 = .ok (.ldc 69, 2) := by decide +kernel
theorem dX12_init_172 : decode cX12_init 172 = .ok (.newarray .int, 2) := by decide +kernel
theorem dX12_init_174 : decode cX12_init 174 = .ok (.putfield 79, 3) := by decide +kernel
theorem dX12_init_177 : decode cX12_init 177 = .ok (.aload_n 0, 1) := by decide +kernel
theorem dX12_init_178 : decode cX12_init 178 = .ok (.bipush 12, 2) := by decide +kernel
theorem dX12_init_180 : decode cX12_init 180 = .ok (.newarray .int, 2) := by decide +kernel
theorem dX12_init_182 : decode cX12_init 182 = .ok (.putfield 82, 3) := by decide +kernel
theorem dX12_init_185 : decode cX12_init 185 = .ok (.aload_n 0, 1) := by decide +kernel
theorem dX12_init_186 : decode cX12_init 186 = .ok (.ldc 69, 2) := by decide +kernel
theorem dX12_init_188 : decode cX12_init 188 = .ok (.newarray .boolean, 2) := by decide +kernel
theorem dX12_init_190 : decode cX12_init 190 = .ok (.putfield 85, 3) := by decide +kernel
theorem dX12_init_193 : decode cX12_init 193 = .ok (.iconst 0, 1) := by decide +kernel
theorem dX12_init_194 : decode cX12_init 194 = .ok (.istore_n 1, 1) := by decide +kernel
theorem dX12_init_195 : decode cX12_init 195 = .ok (.iload_n 1, 1) := by decide +kernel
theorem dX12_init_196 : decode cX12_init 196 = .ok (.iconst 4, 1) := by decide +kernel
theorem dX12_init_197 : decode cX12_init 197 = .ok (.if_icmp .ge 16, 3) := by decide +kernel
theorem dX12_init_200 : decode cX12_init 200 = .ok (.aload_n 0, 1) := by decide +kernel
theorem dX12_init_201 : decode cX12_init 201 = .ok (.getfield 7, 3) := by decide +kernel
theorem dX12_init_204 : decode cX12_init 204 = .ok (.iload_n 1, 1) := by decide +kernel
theorem dX12_init_205 : decode cX12_init 205 = .ok (.iconst (-1), 1) := by decide +kernel
theorem dX12_init_206 : decode cX12_init 206 = .ok (.iastore, 1) := by decide +kernel
theorem dX12_init_207 : decode cX12_init 207 = .ok (.iinc 1 1, 3) := by decide +kernel
theorem dX12_init_210 : decode cX12_init 210 = .ok (.goto (-15), 3) := by decide +kernel
theorem dX12_init_213 : decode cX12_init 213 = .ok (.return_, 1) := by decide +kernel
theorem dX12_in_0 : decode cX12_in 0 = .ok (.lload_n 0, 1) := by decide +kernel
theorem dX12_in_1 : decode cX12_in 1 = .ok (.lload_n 2, 1) := by decide +kernel
theorem dX12_in_2 : decode cX12_in 2 = .ok (.lcmp, 1) := by decide +kernel
theorem dX12_in_3 : decode cX12_in 3 = .ok (.ifCond .lt 14, 3) := by decide +kernel
theorem dX12_in_6 : decode cX12_in 6 = .ok (.lload_n 0, 1) := by decide +kernel
theorem dX12_in_7 : decode cX12_in 7 = .ok (.lload 4, 2) := by decide +kernel
theorem dX12_in_9 : decode cX12_in 9 = .ok (.lcmp, 1) := by decide +kernel
theorem dX12_in_10 : decode cX12_in 10 = .ok (.ifCond .gt 7, 3) := by decide +kernel
theorem dX12_in_13 : decode cX12_in 13 = .ok (.iconst 1, 1) := by decide +kernel
theorem dX12_in_14 : decode cX12_in 14 = .ok (.goto 4, 3) := by decide +kernel
theorem dX12_in_17 : decode cX12_in 17 = .ok (.iconst 0, 1) := by decide +kernel
theorem dX12_in_18 : decode cX12_in 18 = .ok (.ireturn, 1) := by decide +kernel
theorem dX12_isSlot_0 : decode cX12_isSlot 0 = .ok (.iload_n 0, 1) := by decide +kernel
theorem dX12_isSlot_1 : decode cX12_isSlot 1 = .ok (.i2l, 1) := by decide +kernel
theorem dX12_isSlot_2 : decode cX12_isSlot 2 = .ok (.lconst 0, 1) := by decide +kernel
theorem dX12_isSlot_3 : decode cX12_isSlot 3 = .ok (.ldc2_w 91, 3) := by decide +kernel
theorem dX12_isSlot_6 : decode cX12_isSlot 6 = .ok (.invokestatic 93, 3) := by decide +kernel
theorem dX12_isSlot_9 : decode cX12_isSlot 9 = .ok (.ireturn, 1) := by decide +kernel
theorem dX12_row_0 : decode cX12_row 0 = .ok (.aload_n 0, 1) := by decide +kernel
theorem dX12_row_1 : decode cX12_row 1 = .ok (.iconst 0, 1) := by decide +kernel
theorem dX12_row_2 : decode cX12_row 2 = .ok (.putfield 88, 3) := by decide +kernel
theorem dX12_row_5 : decode cX12_row 5 = .ok (.iload_n 1, 1) := by decide +kernel
theorem dX12_row_6 : decode cX12_row 6 = .ok (.invokestatic 97, 3) := by decide +kernel
theorem dX12_row_9 : decode cX12_row 9 = .ok (.ifCond .eq 21, 3) := by decide +kernel
theorem dX12_row_12 : decode cX12_row 12 = .ok (.iload_n 2, 1) := by decide +kernel
theorem dX12_row_13 : decode cX12_row 13 = .ok (.i2l, 1) := by decide +kernel
theorem dX12_row_14 : decode cX12_row 14 = .ok (.lconst 0, 1) := by decide +kernel
theorem dX12_row_15 : decode cX12_row 15 = .ok (.ldc2_w 91, 3) := by decide +kernel
theorem dX12_row_18 : decode cX12_row 18 = .ok (.invokestatic 93, 3) := by decide +kernel
theorem dX12_row_21 : decode cX12_row 21 = .ok (.ifCond .eq 9, 3) := by decide +kernel
theorem dX12_row_24 : decode cX12_row 24 = .ok (.iload_n 3, 1) := by decide +kernel
theorem dX12_row_25 : decode cX12_row 25 = .ok (.bipush 60, 2) := by decide +kernel
theorem dX12_row_27 : decode cX12_row 27 = .ok (.if_icmp .le 6, 3) := by decide +kernel
theorem dX12_row_30 : decode cX12_row 30 = .ok (.bipush (-2), 2) := by decide +kernel
theorem dX12_row_32 : decode cX12_row 32 = .ok (.ireturn, 1) := by decide +kernel
theorem dX12_row_33 : decode cX12_row 33 = .ok (.iload_n 3, 1) := by decide +kernel
theorem dX12_row_34 : decode cX12_row 34 = .ok (.ifCond .ge 6, 3) := by decide +kernel
theorem dX12_row_37 : decode cX12_row 37 = .ok (.bipush (-3), 2) := by decide +kernel
theorem dX12_row_39 : decode cX12_row 39 = .ok (.ireturn, 1) := by decide +kernel
theorem dX12_row_40 : decode cX12_row 40 = .ok (.aload_n 0, 1) := by decide +kernel
theorem dX12_row_41 : decode cX12_row 41 = .ok (.getfield 7, 3) := by decide +kernel
theorem dX12_row_44 : decode cX12_row 44 = .ok (.iload_n 1, 1) := by decide +kernel
theorem dX12_row_45 : decode cX12_row 45 = .ok (.iload_n 2, 1) := by decide +kernel
theorem dX12_row_46 : decode cX12_row 46 = .ok (.iastore, 1) := by decide +kernel
theorem dX12_row_47 : decode cX12_row 47 = .ok (.aload_n 0, 1) := by decide +kernel
theorem dX12_row_48 : decode cX12_row 48 = .ok (.getfield 13, 3) := by decide +kernel
theorem dX12_row_51 : decode cX12_row 51 = .ok (.iload_n 1, 1) := by decide +kernel
theorem dX12_row_52 : decode cX12_row 52 = .ok (.iload_n 3, 1) := by decide +kernel
theorem dX12_row_53 : decode cX12_row 53 = .ok (.iastore, 1) := by decide +kernel
theorem dX12_row_54 : decode cX12_row 54 = .ok (.iconst 0, 1) := by decide +kernel
theorem dX12_row_55 : decode cX12_row 55 = .ok (.istore 4, 2) := by decide +kernel
theorem dX12_row_57 : decode cX12_row 57 = .ok (.iload 4, 2) := by decide +kernel
theorem dX12_row_59 : decode cX12_row 59 = .ok (.iload_n 3, 1) := by decide +kernel
theorem dX12_row_60 : decode cX12_row 60 = .ok (.if_icmp .ge 22, 3) := by decide +kernel
theorem dX12_row_63 : decode cX12_row 63 = .ok (.aload_n 0, 1) := by decide +kernel
theorem dX12_row_64 : decode cX12_row 64 = .ok (.getfield 16, 3) := by decide +kernel
theorem dX12_row_67 : decode cX12_row 67 = .ok (.bipush 60, 2) := by decide +kernel
theorem dX12_row_69 : decode cX12_row 69 = .ok (.iload_n 1, 1) := by decide +kernel
theorem dX12_row_70 : decode cX12_row 70 = .ok (.imul, 1) := by decide +kernel
theorem dX12_row_71 : decode cX12_row 71 = .ok (.iload 4, 2) := by decide +kernel
theorem dX12_row_73 : decode cX12_row 73 = .ok (.iadd, 1) := by decide +kernel
theorem dX12_row_74 : decode cX12_row 74 = .ok (.lconst 0, 1) := by decide +kernel
theorem dX12_row_75 : decode cX12_row 75 = .ok (.lastore, 1) := by decide +kernel
theorem dX12_row_76 : decode cX12_row 76 = .ok (.iinc 4 1, 3) := by decide +kernel
theorem dX12_row_79 : decode cX12_row 79 = .ok (.goto (-22), 3) := by decide +kernel
theorem dX12_row_82 : decode cX12_row 82 = .ok (.iconst 0, 1) := by decide +kernel
theorem dX12_row_83 : decode cX12_row 83 = .ok (.ireturn, 1) := by decide +kernel
theorem dX12_cut_0 : decode cX12_cut 0 = .ok (.iload_n 2, 1) := by decide +kernel
theorem dX12_cut_1 : decode cX12_cut 1 = .ok (.ifCond .ne 10, 3) := by decide +kernel
theorem dX12_cut_4 : decode cX12_cut 4 = .ok (.lload_n 0, 1) := by decide +kernel
theorem dX12_cut_5 : decode cX12_cut 5 = .ok (.l2i, 1) := by decide +kernel
theorem dX12_cut_6 : decode cX12_cut 6 = .ok (.i2b, 1) := by decide +kernel
theorem dX12_cut_7 : decode cX12_cut 7 = .ok (.i2l, 1) := by decide +kernel
theorem dX12_cut_8 : decode cX12_cut 8 = .ok (.goto 27, 3) := by decide +kernel
theorem dX12_cut_11 : decode cX12_cut 11 = .ok (.iload_n 2, 1) := by decide +kernel
theorem dX12_cut_12 : decode cX12_cut 12 = .ok (.iconst 1, 1) := by decide +kernel
theorem dX12_cut_13 : decode cX12_cut 13 = .ok (.if_icmp .ne 10, 3) := by decide +kernel
theorem dX12_cut_16 : decode cX12_cut 16 = .ok (.lload_n 0, 1) := by decide +kernel
theorem dX12_cut_17 : decode cX12_cut 17 = .ok (.l2i, 1) := by decide +kernel
theorem dX12_cut_18 : decode cX12_cut 18 = .ok (.i2s, 1) := by decide +kernel
theorem dX12_cut_19 : decode cX12_cut 19 = .ok (.i2l, 1) := by decide +kernel
theorem dX12_cut_20 : decode cX12_cut 20 = .ok (.goto 15, 3) := by decide +kernel
theorem dX12_cut_23 : decode cX12_cut 23 = .ok (.iload_n 2, 1) := by decide +kernel
theorem dX12_cut_24 : decode cX12_cut 24 = .ok (.iconst 2, 1) := by decide +kernel
theorem dX12_cut_25 : decode cX12_cut 25 = .ok (.if_icmp .ne 9, 3) := by decide +kernel
theorem dX12_cut_28 : decode cX12_cut 28 = .ok (.lload_n 0, 1) := by decide +kernel
theorem dX12_cut_29 : decode cX12_cut 29 = .ok (.l2i, 1) := by decide +kernel
theorem dX12_cut_30 : decode cX12_cut 30 = .ok (.i2l, 1) := by decide +kernel
theorem dX12_cut_31 : decode cX12_cut 31 = .ok (.goto 4, 3) := by decide +kernel
theorem dX12_cut_34 : decode cX12_cut 34 = .ok (.lload_n 0, 1) := by decide +kernel
theorem dX12_cut_35 : decode cX12_cut 35 = .ok (.lreturn, 1) := by decide +kernel
theorem dX12_write_0 : decode cX12_write 0 = .ok (.aload_n 0, 1) := by decide +kernel
theorem dX12_write_1 : decode cX12_write 1 = .ok (.iconst 0, 1) := by decide +kernel
theorem dX12_write_2 : decode cX12_write 2 = .ok (.putfield 88, 3) := by decide +kernel
theorem dX12_write_5 : decode cX12_write 5 = .ok (.iload_n 1, 1) := by decide +kernel
theorem dX12_write_6 : decode cX12_write 6 = .ok (.invokestatic 97, 3) := by decide +kernel
theorem dX12_write_9 : decode cX12_write 9 = .ok (.ifCond .ne 6, 3) := by decide +kernel
theorem dX12_write_12 : decode cX12_write 12 = .ok (.bipush (-2), 2) := by decide +kernel
theorem dX12_write_14 : decode cX12_write 14 = .ok (.ireturn, 1) := by decide +kernel
theorem dX12_write_15 : decode cX12_write 15 = .ok (.aload_n 0, 1) := by decide +kernel
theorem dX12_write_16 : decode cX12_write 16 = .ok (.getfield 7, 3) := by decide +kernel
theorem dX12_write_19 : decode cX12_write 19 = .ok (.iload_n 1, 1) := by decide +kernel
theorem dX12_write_20 : decode cX12_write 20 = .ok (.iaload, 1) := by decide +kernel
theorem dX12_write_21 : decode cX12_write 21 = .ok (.iconst (-1), 1) := by decide +kernel
theorem dX12_write_22 : decode cX12_write 22 = .ok (.if_icmp .ne 6, 3) := by decide +kernel
theorem dX12_write_25 : decode cX12_write 25 = .ok (.bipush (-6), 2) := by decide +kernel
theorem dX12_write_27 : decode cX12_write 27 = .ok (.ireturn, 1) := by decide +kernel
theorem dX12_write_28 : decode cX12_write 28 = .ok (.iload_n 2, 1) := by decide +kernel
theorem dX12_write_29 : decode cX12_write 29 = .ok (.i2l, 1) := by decide +kernel
theorem dX12_write_30 : decode cX12_write 30 = .ok (.lconst 0, 1) := by decide +kernel
theorem dX12_write_31 : decode cX12_write 31 = .ok (.aload_n 0, 1) := by decide +kernel
theorem dX12_write_32 : decode cX12_write 32 = .ok (.getfield 13, 3) := by decide +kernel
theorem dX12_write_35 : decode cX12_write 35 = .ok (.iload_n 1, 1) := by decide +kernel
theorem dX12_write_36 : decode cX12_write 36 = .ok (.iaload, 1) := by decide +kernel
theorem dX12_write_37 : decode cX12_write 37 = .ok (.iconst 1, 1) := by decide +kernel
theorem dX12_write_38 : decode cX12_write 38 = .ok (.isub, 1) := by decide +kernel
theorem dX12_write_39 : decode cX12_write 39 = .ok (.i2l, 1) := by decide +kernel
theorem dX12_write_40 : decode cX12_write 40 = .ok (.invokestatic 93, 3) := by decide +kernel
theorem dX12_write_43 : decode cX12_write 43 = .ok (.ifCond .ne 6, 3) := by decide +kernel
theorem dX12_write_46 : decode cX12_write 46 = .ok (.bipush (-7), 2) := by decide +kernel
theorem dX12_write_48 : decode cX12_write 48 = .ok (.ireturn, 1) := by decide +kernel
theorem dX12_write_49 : decode cX12_write 49 = .ok (.aload_n 0, 1) := by decide +kernel
theorem dX12_write_50 : decode cX12_write 50 = .ok (.getfield 16, 3) := by decide +kernel
theorem dX12_write_53 : decode cX12_write 53 = .ok (.bipush 60, 2) := by decide +kernel
theorem dX12_write_55 : decode cX12_write 55 = .ok (.iload_n 1, 1) := by decide +kernel
theorem dX12_write_56 : decode cX12_write 56 = .ok (.imul, 1) := by decide +kernel
theorem dX12_write_57 : decode cX12_write 57 = .ok (.iload_n 2, 1) := by decide +kernel
theorem dX12_write_58 : decode cX12_write 58 = .ok (.iadd, 1) := by decide +kernel
theorem dX12_write_59 : decode cX12_write 59 = .ok (.lload_n 3, 1) := by decide +kernel
theorem dX12_write_60 : decode cX12_write 60 = .ok (.aload_n 0, 1) := by decide +kernel
theorem dX12_write_61 : decode cX12_write 61 = .ok (.getfield 7, 3) := by decide +kernel
theorem dX12_write_64 : decode cX12_write 64 = .ok (.iload_n 1, 1) := by decide +kernel
theorem dX12_write_65 : decode cX12_write 65 = .ok (.iaload, 1) := by decide +kernel
theorem dX12_write_66 : decode cX12_write 66 = .ok (.invokestatic 101, 3) := by decide +kernel
theorem dX12_write_69 : decode cX12_write 69 = .ok (.lastore, 1) := by decide +kernel
theorem dX12_write_70 : decode cX12_write 70 = .ok (.iconst 0, 1) := by decide +kernel
theorem dX12_write_71 : decode cX12_write 71 = .ok (.ireturn, 1) := by decide +kernel
theorem dX12_paste_0 : decode cX12_paste 0 = .ok (.aload_n 0, 1) := by decide +kernel
theorem dX12_paste_1 : decode cX12_paste 1 = .ok (.iconst 0, 1) := by decide +kernel
theorem dX12_paste_2 : decode cX12_paste 2 = .ok (.putfield 88, 3) := by decide +kernel
theorem dX12_paste_5 : decode cX12_paste 5 = .ok (.iload_n 1, 1) := by decide +kernel
theorem dX12_paste_6 : decode cX12_paste 6 = .ok (.invokestatic 97, 3) := by decide +kernel
theorem dX12_paste_9 : decode cX12_paste 9 = .ok (.ifCond .eq 10, 3) := by decide +kernel
theorem dX12_paste_12 : decode cX12_paste 12 = .ok (.iload_n 3, 1) := by decide +kernel
theorem dX12_paste_13 : decode cX12_paste 13 = .ok (.invokestatic 97, 3) := by decide +kernel
theorem dX12_paste_16 : decode cX12_paste 16 = .ok (.ifCond .ne 6, 3) := by decide +kernel
theorem dX12_paste_19 : decode cX12_paste 19 = .ok (.bipush (-2), 2) := by decide +kernel
theorem dX12_paste_21 : decode cX12_paste 21 = .ok (.ireturn, 1) := by decide +kernel
theorem dX12_paste_22 : decode cX12_paste 22 = .ok (.aload_n 0, 1) := by decide +kernel
theorem dX12_paste_23 : decode cX12_paste 23 = .ok (.getfield 7, 3) := by decide +kernel
theorem dX12_paste_26 : decode cX12_paste 26 = .ok (.iload_n 1, 1) := by decide +kernel
theorem dX12_paste_27 : decode cX12_paste 27 = .ok (.iaload, 1) := by decide +kernel
theorem dX12_paste_28 : decode cX12_paste 28 = .ok (.iconst (-1), 1) := by decide +kernel
theorem dX12_paste_29 : decode cX12_paste 29 = .ok (.if_icmp .eq 13, 3) := by decide +kernel
theorem dX12_paste_32 : decode cX12_paste 32 = .ok (.aload_n 0, 1) := by decide +kernel
theorem dX12_paste_33 : decode cX12_paste 33 = .ok (.getfield 7, 3) := by decide +kernel
theorem dX12_paste_36 : decode cX12_paste 36 = .ok (.iload_n 3, 1) := by decide +kernel
theorem dX12_paste_37 : decode cX12_paste 37 = .ok (.iaload, 1) := by decide +kernel
theorem dX12_paste_38 : decode cX12_paste 38 = .ok (.iconst (-1), 1) := by decide +kernel
theorem dX12_paste_39 : decode cX12_paste 39 = .ok (.if_icmp .ne 6, 3) := by decide +kernel
theorem dX12_paste_42 : decode cX12_paste 42 = .ok (.bipush (-6), 2) := by decide +kernel
theorem dX12_paste_44 : decode cX12_paste 44 = .ok (.ireturn, 1) := by decide +kernel
theorem dX12_paste_45 : decode cX12_paste 45 = .ok (.aload_n 0, 1) := by decide +kernel
theorem dX12_paste_46 : decode cX12_paste 46 = .ok (.getfield 7, 3) := by decide +kernel
theorem dX12_paste_49 : decode cX12_paste 49 = .ok (.iload_n 1, 1) := by decide +kernel
theorem dX12_paste_50 : decode cX12_paste 50 = .ok (.iaload, 1) := by decide +kernel
theorem dX12_paste_51 : decode cX12_paste 51 = .ok (.aload_n 0, 1) := by decide +kernel
theorem dX12_paste_52 : decode cX12_paste 52 = .ok (.getfield 7, 3) := by decide +kernel
theorem dX12_paste_55 : decode cX12_paste 55 = .ok (.iload_n 3, 1) := by decide +kernel
theorem dX12_paste_56 : decode cX12_paste 56 = .ok (.iaload, 1) := by decide +kernel
theorem dX12_paste_57 : decode cX12_paste 57 = .ok (.if_icmp .eq 6, 3) := by decide +kernel
theorem dX12_paste_60 : decode cX12_paste 60 = .ok (.bipush (-8), 2) := by decide +kernel
theorem dX12_paste_62 : decode cX12_paste 62 = .ok (.ireturn, 1) := by decide +kernel
theorem dX12_paste_63 : decode cX12_paste 63 = .ok (.iload_n 2, 1) := by decide +kernel
theorem dX12_paste_64 : decode cX12_paste 64 = .ok (.ifCond .lt 48, 3) := by decide +kernel
theorem dX12_paste_67 : decode cX12_paste 67 = .ok (.iload 4, 2) := by decide +kernel
theorem dX12_paste_69 : decode cX12_paste 69 = .ok (.ifCond .lt 43, 3) := by decide +kernel
theorem dX12_paste_72 : decode cX12_paste 72 = .ok (.iload 5, 2) := by decide +kernel
theorem dX12_paste_74 : decode cX12_paste 74 = .ok (.ifCond .lt 38, 3) := by decide +kernel
theorem dX12_paste_77 : decode cX12_paste 77 = .ok (.iload_n 2, 1) := by decide +kernel
theorem dX12_paste_78 : decode cX12_paste 78 = .ok (.i2l, 1) := by decide +kernel
theorem dX12_paste_79 : decode cX12_paste 79 = .ok (.iload 5, 2) := by decide +kernel
theorem dX12_paste_81 : decode cX12_paste 81 = .ok (.i2l, 1) := by decide +kernel
theorem dX12_paste_82 : decode cX12_paste 82 = .ok (.ladd, 1) := by decide +kernel
theorem dX12_paste_83 : decode cX12_paste 83 = .ok (.aload_n 0, 1) := by decide +kernel
theorem dX12_paste_84 : decode cX12_paste 84 = .ok (.getfield 13, 3) := by decide +kernel
theorem dX12_paste_87 : decode cX12_paste 87 = .ok (.iload_n 1, 1) := by decide +kernel
theorem dX12_paste_88 : decode cX12_paste 88 = .ok (.iaload, 1) := by decide +kernel
theorem dX12_paste_89 : decode cX12_paste 89 = .ok (.i2l, 1) := by decide +kernel
theorem dX12_paste_90 : decode cX12_paste 90 = .ok (.lcmp, 1) := by decide +kernel
theorem dX12_paste_91 : decode cX12_paste 91 = .ok (.ifCond .gt 21, 3) := by decide +kernel
theorem dX12_paste_94 : decode cX12_paste 94 = .ok (.iload 4, 2) := by decide +kernel
theorem dX12_paste_96 : decode cX12_paste 96 = .ok (.i2l, 1) := by decide +kernel
theorem dX12_paste_97 : decode cX12_paste 97 = .ok (.iload 5, 2) := by decide +kernel
theorem dX12_paste_99 : decode cX12_paste 99 = .ok (.i2l, 1) := by decide +kernel
theorem dX12_paste_100 : decode cX12_paste 100 = .ok (.ladd, 1) := by decide +kernel
theorem dX12_paste_101 : decode cX12_paste 101 = .ok (.aload_n 0, 1) := by decide +kernel
theorem dX12_paste_102 : decode cX12_paste 102 = .ok (.getfield 13, 3) := by decide +kernel
theorem dX12_paste_105 : decode cX12_paste 105 = .ok (.iload_n 3, 1) := by decide +kernel
theorem dX12_paste_106 : decode cX12_paste 106 = .ok (.iaload, 1) := by decide +kernel
theorem dX12_paste_107 : decode cX12_paste 107 = .ok (.i2l, 1) := by decide +kernel
theorem dX12_paste_108 : decode cX12_paste 108 = .ok (.lcmp, 1) := by decide +kernel
theorem dX12_paste_109 : decode cX12_paste 109 = .ok (.ifCond .le 6, 3) := by decide +kernel
theorem dX12_paste_112 : decode cX12_paste 112 = .ok (.bipush (-7), 2) := by decide +kernel
theorem dX12_paste_114 : decode cX12_paste 114 = .ok (.ireturn, 1) := by decide +kernel
theorem dX12_paste_115 : decode cX12_paste 115 = .ok (.iconst 0, 1) := by decide +kernel
theorem dX12_paste_116 : decode cX12_paste 116 = .ok (.istore 6, 2) := by decide +kernel
theorem dX12_paste_118 : decode cX12_paste 118 = .ok (.iload 6, 2) := by decide +kernel
theorem dX12_paste_120 : decode cX12_paste 120 = .ok (.iload 5, 2) := by decide +kernel
theorem dX12_paste_122 : decode cX12_paste 122 = .ok (.if_icmp .ge 30, 3) := by decide +kernel
theorem dX12_paste_125 : decode cX12_paste 125 = .ok (.aload_n 0, 1) := by decide +kernel
theorem dX12_paste_126 : decode cX12_paste 126 = .ok (.getfield 20, 3) := by decide +kernel
theorem dX12_paste_129 : decode cX12_paste 129 = .ok (.iload 6, 2) := by decide +kernel
theorem dX12_paste_131 : decode cX12_paste 131 = .ok (.aload_n 0, 1) := by decide +kernel
theorem dX12_paste_132 : decode cX12_paste 132 = .ok (.getfield 16, 3) := by decide +kernel
theorem dX12_paste_135 : decode cX12_paste 135 = .ok (.bipush 60, 2) := by decide +kernel
theorem dX12_paste_137 : decode cX12_paste 137 = .ok (.iload_n 1, 1) := by decide +kernel
theorem dX12_paste_138 : decode cX12_paste 138 = .ok (.imul, 1) := by decide +kernel
theorem dX12_paste_139 : decode cX12_paste 139 = .ok (.iload_n 2, 1) := by decide +kernel
theorem dX12_paste_140 : decode cX12_paste 140 = .ok (.iadd, 1) := by decide +kernel
theorem dX12_paste_141 : decode cX12_paste 141 = .ok (.iload 6, 2) := by decide +kernel
theorem dX12_paste_143 : decode cX12_paste 143 = .ok (.iadd, 1) := by decide +kernel
theorem dX12_paste_144 : decode cX12_paste 144 = .ok (.laload, 1) := by decide +kernel
theorem dX12_paste_145 : decode cX12_paste 145 = .ok (.lastore, 1) := by decide +kernel
theorem dX12_paste_146 : decode cX12_paste 146 = .ok (.iinc 6 1, 3) := by decide +kernel
theorem dX12_paste_149 : decode cX12_paste 149 = .ok (.goto (-31), 3) := by decide +kernel
theorem dX12_paste_152 : decode cX12_paste 152 = .ok (.iconst 0, 1) := by decide +kernel
theorem dX12_paste_153 : decode cX12_paste 153 = .ok (.istore 6, 2) := by decide +kernel
theorem dX12_paste_155 : decode cX12_paste 155 = .ok (.iload 6, 2) := by decide +kernel
theorem dX12_paste_157 : decode cX12_paste 157 = .ok (.iload 5, 2) := by decide +kernel
theorem dX12_paste_159 : decode cX12_paste 159 = .ok (.if_icmp .ge 31, 3) := by decide +kernel
theorem dX12_paste_162 : decode cX12_paste 162 = .ok (.aload_n 0, 1) := by decide +kernel
theorem dX12_paste_163 : decode cX12_paste 163 = .ok (.getfield 16, 3) := by decide +kernel
theorem dX12_paste_166 : decode cX12_paste 166 = .ok (.bipush 60, 2) := by decide +kernel
theorem dX12_paste_168 : decode cX12_paste 168 = .ok (.iload_n 3, 1) := by decide +kernel
theorem dX12_paste_169 : decode cX12_paste 169 = .ok (.imul, 1) := by decide +kernel
theorem dX12_paste_170 : decode cX12_paste 170 = .ok (.iload 4, 2) := by decide +kernel
theorem dX12_paste_172 : decode cX12_paste 172 = .ok (.iadd, 1) := by decide +kernel
theorem dX12_paste_173 : decode cX12_paste 173 = .ok (.iload 6, 2) := by decide +kernel
theorem dX12_paste_175 : decode cX12_paste 175 = .ok (.iadd, 1) := by decide +kernel
theorem dX12_paste_176 : decode cX12_paste 176 = .ok (.aload_n 0, 1) := by decide +kernel
theorem dX12_paste_177 : decode cX12_paste 177 = .ok (.getfield 20, 3) := by decide +kernel
theorem dX12_paste_180 : decode cX12_paste 180 = .ok (.iload 6, 2) := by decide +kernel
theorem dX12_paste_182 : decode cX12_paste 182 = .ok (.laload, 1) := by decide +kernel
theorem dX12_paste_183 : decode cX12_paste 183 = .ok (.lastore, 1) := by decide +kernel
theorem dX12_paste_184 : decode cX12_paste 184 = .ok (.iinc 6 1, 3) := by decide +kernel
theorem dX12_paste_187 : decode cX12_paste 187 = .ok (.goto (-32), 3) := by decide +kernel
theorem dX12_paste_190 : decode cX12_paste 190 = .ok (.iconst 0, 1) := by decide +kernel
theorem dX12_paste_191 : decode cX12_paste 191 = .ok (.ireturn, 1) := by decide +kernel
theorem dX12_feed_0 : decode cX12_feed 0 = .ok (.aload_n 0, 1) := by decide +kernel
theorem dX12_feed_1 : decode cX12_feed 1 = .ok (.iconst 0, 1) := by decide +kernel
theorem dX12_feed_2 : decode cX12_feed 2 = .ok (.putfield 88, 3) := by decide +kernel
theorem dX12_feed_5 : decode cX12_feed 5 = .ok (.aload_n 0, 1) := by decide +kernel
theorem dX12_feed_6 : decode cX12_feed 6 = .ok (.getfield 105, 3) := by decide +kernel
theorem dX12_feed_9 : decode cX12_feed 9 = .ok (.bipush 20, 2) := by decide +kernel
theorem dX12_feed_11 : decode cX12_feed 11 = .ok (.iadd, 1) := by decide +kernel
theorem dX12_feed_12 : decode cX12_feed 12 = .ok (.sipush 600, 3) := by decide +kernel
theorem dX12_feed_15 : decode cX12_feed 15 = .ok (.if_icmp .le 5, 3) := by decide +kernel
theorem dX12_feed_18 : decode cX12_feed 18 = .ok (.iconst (-1), 1) := by decide +kernel
theorem dX12_feed_19 : decode cX12_feed 19 = .ok (.ireturn, 1) := by decide +kernel
theorem dX12_feed_20 : decode cX12_feed 20 = .ok (.aload_n 0, 1) := by decide +kernel
theorem dX12_feed_21 : decode cX12_feed 21 = .ok (.iload_n 1, 1) := by decide +kernel
theorem dX12_feed_22 : decode cX12_feed 22 = .ok (.invokevirtual 108, 3) := by decide +kernel
theorem dX12_feed_25 : decode cX12_feed 25 = .ok (.aload_n 0, 1) := by decide +kernel
theorem dX12_feed_26 : decode cX12_feed 26 = .ok (.iload_n 2, 1) := by decide +kernel
theorem dX12_feed_27 : decode cX12_feed 27 = .ok (.invokevirtual 108, 3) := by decide +kernel
theorem dX12_feed_30 : decode cX12_feed 30 = .ok (.aload_n 0, 1) := by decide +kernel
theorem dX12_feed_31 : decode cX12_feed 31 = .ok (.iload_n 3, 1) := by decide +kernel
theorem dX12_feed_32 : decode cX12_feed 32 = .ok (.invokevirtual 108, 3) := by decide +kernel
theorem dX12_feed_35 : decode cX12_feed 35 = .ok (.aload_n 0, 1) := by decide +kernel
theorem dX12_feed_36 : decode cX12_feed 36 = .ok (.iload 4, 2) := by decide +kernel
theorem dX12_feed_38 : decode cX12_feed 38 = .ok (.invokevirtual 108, 3) := by decide +kernel
theorem dX12_feed_41 : decode cX12_feed 41 = .ok (.aload_n 0, 1) := by decide +kernel
theorem dX12_feed_42 : decode cX12_feed 42 = .ok (.iload 5, 2) := by decide +kernel
theorem dX12_feed_44 : decode cX12_feed 44 = .ok (.invokevirtual 108, 3) := by decide +kernel
theorem dX12_feed_47 : decode cX12_feed 47 = .ok (.aload_n 0, 1) := by decide +kernel
theorem dX12_feed_48 : decode cX12_feed 48 = .ok (.getfield 105, 3) := by decide +kernel
theorem dX12_feed_51 : decode cX12_feed 51 = .ok (.ireturn, 1) := by decide +kernel
theorem dX12_four_0 : decode cX12_four 0 = .ok (.bipush 24, 2) := by decide +kernel
theorem dX12_four_2 : decode cX12_four 2 = .ok (.istore_n 2, 1) := by decide +kernel
theorem dX12_four_3 : decode cX12_four 3 = .ok (.iload_n 2, 1) := by decide +kernel
theorem dX12_four_4 : decode cX12_four 4 = .ok (.ifCond .lt 32, 3) := by decide +kernel
theorem dX12_four_7 : decode cX12_four 7 = .ok (.aload_n 0, 1) := by decide +kernel
theorem dX12_four_8 : decode cX12_four 8 = .ok (.getfield 23, 3) := by decide +kernel
theorem dX12_four_11 : decode cX12_four 11 = .ok (.aload_n 0, 1) := by decide +kernel
theorem dX12_four_12 : decode cX12_four 12 = .ok (.getfield 105, 3) := by decide +kernel
theorem dX12_four_15 : decode cX12_four 15 = .ok (.iload_n 1, 1) := by decide +kernel
theorem dX12_four_16 : decode cX12_four 16 = .ok (.iload_n 2, 1) := by decide +kernel
theorem dX12_four_17 : decode cX12_four 17 = .ok (.ishr, 1) := by decide +kernel
theorem dX12_four_18 : decode cX12_four 18 = .ok (.i2b, 1) := by decide +kernel
theorem dX12_four_19 : decode cX12_four 19 = .ok (.bastore, 1) := by decide +kernel
theorem dX12_four_20 : decode cX12_four 20 = .ok (.aload_n 0, 1) := by decide +kernel
theorem dX12_four_21 : decode cX12_four 21 = .ok (.dup, 1) := by decide +kernel
theorem dX12_four_22 : decode cX12_four 22 = .ok (.getfield 105, 3) := by decide +kernel
theorem dX12_four_25 : decode cX12_four 25 = .ok (.iconst 1, 1) := by decide +kernel
theorem dX12_four_26 : decode cX12_four 26 = .ok (.iadd, 1) := by decide +kernel
theorem dX12_four_27 : decode cX12_four 27 = .ok (.putfield 105, 3) := by decide +kernel
theorem dX12_four_30 : decode cX12_four 30 = .ok (.iinc 2 (-8), 3) := by decide +kernel
theorem dX12_four_33 : decode cX12_four 33 = .ok (.goto (-30), 3) := by decide +kernel
theorem dX12_four_36 : decode cX12_four 36 = .ok (.return_, 1) := by decide +kernel
theorem dX12_end_0 : decode cX12_end 0 = .ok (.aload_n 0, 1) := by decide +kernel
theorem dX12_end_1 : decode cX12_end 1 = .ok (.iconst 0, 1) := by decide +kernel
theorem dX12_end_2 : decode cX12_end 2 = .ok (.putfield 88, 3) := by decide +kernel
theorem dX12_end_5 : decode cX12_end 5 = .ok (.iload_n 1, 1) := by decide +kernel
theorem dX12_end_6 : decode cX12_end 6 = .ok (.i2l, 1) := by decide +kernel
theorem dX12_end_7 : decode cX12_end 7 = .ok (.lconst 0, 1) := by decide +kernel
theorem dX12_end_8 : decode cX12_end 8 = .ok (.aload_n 0, 1) := by decide +kernel
theorem dX12_end_9 : decode cX12_end 9 = .ok (.getfield 105, 3) := by decide +kernel
theorem dX12_end_12 : decode cX12_end 12 = .ok (.i2l, 1) := by decide +kernel
theorem dX12_end_13 : decode cX12_end 13 = .ok (.invokestatic 93, 3) := by decide +kernel
theorem dX12_end_16 : decode cX12_end 16 = .ok (.ifCond .ne 5, 3) := by decide +kernel
theorem dX12_end_19 : decode cX12_end 19 = .ok (.iconst (-1), 1) := by decide +kernel
theorem dX12_end_20 : decode cX12_end 20 = .ok (.ireturn, 1) := by decide +kernel
theorem dX12_end_21 : decode cX12_end 21 = .ok (.aload_n 0, 1) := by decide +kernel
theorem dX12_end_22 : decode cX12_end 22 = .ok (.iload_n 1, 1) := by decide +kernel
theorem dX12_end_23 : decode cX12_end 23 = .ok (.putfield 105, 3) := by decide +kernel
theorem dX12_end_26 : decode cX12_end 26 = .ok (.iload_n 1, 1) := by decide +kernel
theorem dX12_end_27 : decode cX12_end 27 = .ok (.ireturn, 1) := by decide +kernel
theorem dX12_isByte_0 : decode cX12_isByte 0 = .ok (.iload_n 1, 1) := by decide +kernel
theorem dX12_isByte_1 : decode cX12_isByte 1 = .ok (.aload_n 0, 1) := by decide +kernel
theorem dX12_isByte_2 : decode cX12_isByte 2 = .ok (.getfield 105, 3) := by decide +kernel
theorem dX12_isByte_5 : decode cX12_isByte 5 = .ok (.if_icmp .ge 27, 3) := by decide +kernel
theorem dX12_isByte_8 : decode cX12_isByte 8 = .ok (.aload_n 0, 1) := by decide +kernel
theorem dX12_isByte_9 : decode cX12_isByte 9 = .ok (.getfield 23, 3) := by decide +kernel
theorem dX12_isByte_12 : decode cX12_isByte 12 = .ok (.iload_n 1, 1) := by decide +kernel
theorem dX12_isByte_13 : decode cX12_isByte 13 = .ok (.baload, 1) := by decide +kernel
theorem dX12_isByte_14 : decode cX12_isByte 14 = .ok (.iload_n 2, 1) := by decide +kernel
theorem dX12_isByte_15 : decode cX12_isByte 15 = .ok (.if_icmp .lt 17, 3) := by decide +kernel
theorem dX12_isByte_18 : decode cX12_isByte 18 = .ok (.aload_n 0, 1) := by decide +kernel
theorem dX12_isByte_19 : decode cX12_isByte 19 = .ok (.getfield 23, 3) := by decide +kernel
theorem dX12_isByte_22 : decode cX12_isByte 22 = .ok (.iload_n 1, 1) := by decide +kernel
theorem dX12_isByte_23 : decode cX12_isByte 23 = .ok (.baload, 1) := by decide +kernel
theorem dX12_isByte_24 : decode cX12_isByte 24 = .ok (.iload_n 3, 1) := by decide +kernel
theorem dX12_isByte_25 : decode cX12_isByte 25 = .ok (.if_icmp .gt 7, 3) := by decide +kernel
theorem dX12_isByte_28 : decode cX12_isByte 28 = .ok (.iconst 1, 1) := by decide +kernel
theorem dX12_isByte_29 : decode cX12_isByte 29 = .ok (.goto 4, 3) := by decide +kernel
theorem dX12_isByte_32 : decode cX12_isByte 32 = .ok (.iconst 0, 1) := by decide +kernel
theorem dX12_isByte_33 : decode cX12_isByte 33 = .ok (.ireturn, 1) := by decide +kernel
theorem dX12_next_0 : decode cX12_next 0 = .ok (.aload_n 0, 1) := by decide +kernel
theorem dX12_next_1 : decode cX12_next 1 = .ok (.aload_n 0, 1) := by decide +kernel
theorem dX12_next_2 : decode cX12_next 2 = .ok (.getfield 112, 3) := by decide +kernel
theorem dX12_next_5 : decode cX12_next 5 = .ok (.bipush 32, 2) := by decide +kernel
theorem dX12_next_7 : decode cX12_next 7 = .ok (.bipush 32, 2) := by decide +kernel
theorem dX12_next_9 : decode cX12_next 9 = .ok (.invokevirtual 115, 3) := by decide +kernel
theorem dX12_next_12 : decode cX12_next 12 = .ok (.ifCond .ne 18, 3) := by decide +kernel
theorem dX12_next_15 : decode cX12_next 15 = .ok (.aload_n 0, 1) := by decide +kernel
theorem dX12_next_16 : decode cX12_next 16 = .ok (.aload_n 0, 1) := by decide +kernel
theorem dX12_next_17 : decode cX12_next 17 = .ok (.getfield 112, 3) := by decide +kernel
theorem dX12_next_20 : decode cX12_next 20 = .ok (.bipush 10, 2) := by decide +kernel
theorem dX12_next_22 : decode cX12_next 22 = .ok (.bipush 10, 2) := by decide +kernel
theorem dX12_next_24 : decode cX12_next 24 = .ok (.invokevirtual 115, 3) := by decide +kernel
theorem dX12_next_27 : decode cX12_next 27 = .ok (.ifCond .eq 16, 3) := by decide +kernel
theorem dX12_next_30 : decode cX12_next 30 = .ok (.aload_n 0, 1) := by decide +kernel
theorem dX12_next_31 : decode cX12_next 31 = .ok (.dup, 1) := by decide +kernel
theorem dX12_next_32 : decode cX12_next 32 = .ok (.getfield 112, 3) := by decide +kernel
theorem dX12_next_35 : decode cX12_next 35 = .ok (.iconst 1, 1) := by decide +kernel
theorem dX12_next_36 : decode cX12_next 36 = .ok (.iadd, 1) := by decide +kernel
theorem dX12_next_37 : decode cX12_next 37 = .ok (.putfield 112, 3) := by decide +kernel
theorem dX12_next_40 : decode cX12_next 40 = .ok (.goto (-40), 3) := by decide +kernel
theorem dX12_next_43 : decode cX12_next 43 = .ok (.aload_n 0, 1) := by decide +kernel
theorem dX12_next_44 : decode cX12_next 44 = .ok (.aload_n 0, 1) := by decide +kernel
theorem dX12_next_45 : decode cX12_next 45 = .ok (.getfield 112, 3) := by decide +kernel
theorem dX12_next_48 : decode cX12_next 48 = .ok (.putfield 119, 3) := by decide +kernel
theorem dX12_next_51 : decode cX12_next 51 = .ok (.aload_n 0, 1) := by decide +kernel
theorem dX12_next_52 : decode cX12_next 52 = .ok (.iconst 0, 1) := by decide +kernel
theorem dX12_next_53 : decode cX12_next 53 = .ok (.putfield 122, 3) := by decide +kernel
theorem dX12_next_56 : decode cX12_next 56 = .ok (.aload_n 0, 1) := by decide +kernel
theorem dX12_next_57 : decode cX12_next 57 = .ok (.lconst 0, 1) := by decide +kernel
theorem dX12_next_58 : decode cX12_next 58 = .ok (.putfield 125, 3) := by decide +kernel
theorem dX12_next_61 : decode cX12_next 61 = .ok (.aload_n 0, 1) := by decide +kernel
theorem dX12_next_62 : decode cX12_next 62 = .ok (.getfield 112, 3) := by decide +kernel
theorem dX12_next_65 : decode cX12_next 65 = .ok (.aload_n 0, 1) := by decide +kernel
theorem dX12_next_66 : decode cX12_next 66 = .ok (.getfield 105, 3) := by decide +kernel
theorem dX12_next_69 : decode cX12_next 69 = .ok (.if_icmp .ne 11, 3) := by decide +kernel
theorem dX12_next_72 : decode cX12_next 72 = .ok (.aload_n 0, 1) := by decide +kernel
theorem dX12_next_73 : decode cX12_next 73 = .ok (.iconst 0, 1) := by decide +kernel
theorem dX12_next_74 : decode cX12_next 74 = .ok (.putfield 129, 3) := by decide +kernel
theorem dX12_next_77 : decode cX12_next 77 = .ok (.goto 230, 3) := by decide +kernel
theorem dX12_next_80 : decode cX12_next 80 = .ok (.aload_n 0, 1) := by decide +kernel
theorem dX12_next_81 : decode cX12_next 81 = .ok (.aload_n 0, 1) := by decide +kernel
theorem dX12_next_82 : decode cX12_next 82 = .ok (.getfield 112, 3) := by decide +kernel
theorem dX12_next_85 : decode cX12_next 85 = .ok (.bipush 97, 2) := by decide +kernel
theorem dX12_next_87 : decode cX12_next 87 = .ok (.bipush 122, 2) := by decide +kernel
theorem dX12_next_89 : decode cX12_next 89 = .ok (.invokevirtual 115, 3) := by decide +kernel
theorem dX12_next_92 : decode cX12_next 92 = .ok (.ifCond .eq 96, 3) := by decide +kernel
theorem dX12_next_95 : decode cX12_next 95 = .ok (.aload_n 0, 1) := by decide +kernel
theorem dX12_next_96 : decode cX12_next 96 = .ok (.iconst 1, 1) := by decide +kernel
theorem dX12_next_97 : decode cX12_next 97 = .ok (.putfield 129, 3) := by decide +kernel
theorem dX12_next_100 : decode cX12_next 100 = .ok (.iconst 0, 1) := by decide +kernel
theorem dX12_next_101 : decode cX12_next 101 = .ok (.istore_n 1, 1) := by decide +kernel
theorem dX12_next_102 : decode cX12_next 102 = .ok (.aload_n 0, 1) := by decide +kernel
theorem dX12_next_103 : decode cX12_next 103 = .ok (.aload_n 0, 1) := by decide +kernel
theorem dX12_next_104 : decode cX12_next 104 = .ok (.getfield 112, 3) := by decide +kernel
theorem dX12_next_107 : decode cX12_next 107 = .ok (.bipush 97, 2) := by decide +kernel
theorem dX12_next_109 : decode cX12_next 109 = .ok (.bipush 122, 2) := by decide +kernel
theorem dX12_next_111 : decode cX12_next 111 = .ok (.invokevirtual 115, 3) := by decide +kernel
theorem dX12_next_114 : decode cX12_next 114 = .ok (.ifCond .eq 71, 3) := by decide +kernel
theorem dX12_next_117 : decode cX12_next 117 = .ok (.aload_n 0, 1) := by decide +kernel
theorem dX12_next_118 : decode cX12_next 118 = .ok (.iload_n 1, 1) := by decide +kernel
theorem dX12_next_119 : decode cX12_next 119 = .ok (.bipush 11, 2) := by decide +kernel
theorem dX12_next_121 : decode cX12_next 121 = .ok (.if_icmp .le 9, 3) := by decide +kernel
theorem dX12_next_124 : decode cX12_next 124 = .ok (.ldc2_w 132, 3) := by decide +kernel
theorem dX12_next_127 : decode cX12_next 127 = .ok (.goto 26, 3) := by decide +kernel
theorem dX12_next_130 : decode cX12_next 130 = .ok (.ldc2_w 134, 3) := by decide +kernel
theorem dX12_next_133 : decode cX12_next 133 = .ok (.aload_n 0, 1) := by decide +kernel
theorem dX12_next_134 : decode cX12_next 134 = .ok (.getfield 125, 3) := by decide +kernel
theorem dX12_next_137 : decode cX12_next 137 = .ok (.lmul, 1) := by decide +kernel
theorem dX12_next_138 : decode cX12_next 138 = .ok (.aload_n 0, 1) := by decide +kernel
theorem dX12_next_139 : decode cX12_next 139 = .ok (.getfield 23, 3) := by decide +kernel
theorem dX12_next_142 : decode cX12_next 142 = .ok (.aload_n 0, 1) := by decide +kernel
theorem dX12_next_143 : decode cX12_next 143 = .ok (.getfield 112, 3) := by decide +kernel
theorem dX12_next_146 : decode cX12_next 146 = .ok (.baload, 1) := by decide +kernel
theorem dX12_next_147 : decode cX12_next 147 = .ok (.i2l, 1) := by decide +kernel
theorem dX12_next_148 : decode cX12_next 148 = .ok (.ladd, 1) := by decide +kernel
theorem dX12_next_149 : decode cX12_next 149 = .ok (.ldc2_w 136, 3) := by decide +kernel
theorem dX12_next_152 : decode cX12_next 152 = .ok (.lsub, 1) := by decide +kernel
theorem dX12_next_153 : decode cX12_next 153 = .ok (.putfield 125, 3) := by decide +kernel
theorem dX12_next_156 : decode cX12_next 156 = .ok (.iload_n 1, 1) := by decide +kernel
theorem dX12_next_157 : decode cX12_next 157 = .ok (.bipush 11, 2) := by decide +kernel
theorem dX12_next_159 : decode cX12_next 159 = .ok (.if_icmp .le 10, 3) := by decide +kernel
theorem dX12_next_162 : decode cX12_next 162 = .ok (.aload_n 0, 1) := by decide +kernel
theorem dX12_next_163 : decode cX12_next 163 = .ok (.ldc2_w 132, 3) := by decide +kernel
theorem dX12_next_166 : decode cX12_next 166 = .ok (.putfield 125, 3) := by decide +kernel
theorem dX12_next_169 : decode cX12_next 169 = .ok (.aload_n 0, 1) := by decide +kernel
theorem dX12_next_170 : decode cX12_next 170 = .ok (.dup, 1) := by decide +kernel
theorem dX12_next_171 : decode cX12_next 171 = .ok (.getfield 112, 3) := by decide +kernel
theorem dX12_next_174 : decode cX12_next 174 = .ok (.iconst 1, 1) := by decide +kernel
theorem dX12_next_175 : decode cX12_next 175 = .ok (.iadd, 1) := by decide +kernel
theorem dX12_next_176 : decode cX12_next 176 = .ok (.putfield 112, 3) := by decide +kernel
theorem dX12_next_179 : decode cX12_next 179 = .ok (.iinc 1 1, 3) := by decide +kernel
theorem dX12_next_182 : decode cX12_next 182 = .ok (.goto (-80), 3) := by decide +kernel
theorem dX12_next_185 : decode cX12_next 185 = .ok (.goto 122, 3) := by decide +kernel
theorem dX12_next_188 : decode cX12_next 188 = .ok (.aload_n 0, 1) := by decide +kernel
theorem dX12_next_189 : decode cX12_next 189 = .ok (.aload_n 0, 1) := by decide +kernel
theorem dX12_next_190 : decode cX12_next 190 = .ok (.getfield 112, 3) := by decide +kernel
theorem dX12_next_193 : decode cX12_next 193 = .ok (.bipush 48, 2) := by decide +kernel
theorem dX12_next_195 : decode cX12_next 195 = .ok (.bipush 57, 2) := by decide +kernel
theorem dX12_next_197 : decode cX12_next 197 = .ok (.invokevirtual 115, 3) := by decide +kernel
theorem dX12_next_200 : decode cX12_next 200 = .ok (.ifCond .eq 74, 3) := by decide +kernel
theorem dX12_next_203 : decode cX12_next 203 = .ok (.aload_n 0, 1) := by decide +kernel
theorem dX12_next_204 : decode cX12_next 204 = .ok (.iconst 2, 1) := by decide +kernel
theorem dX12_next_205 : decode cX12_next 205 = .ok (.putfield 129, 3) := by decide +kernel
theorem dX12_next_208 : decode cX12_next 208 = .ok (.aload_n 0, 1) := by decide +kernel
theorem dX12_next_209 : decode cX12_next 209 = .ok (.aload_n 0, 1) := by decide +kernel
theorem dX12_next_210 : decode cX12_next 210 = .ok (.getfield 112, 3) := by decide +kernel
theorem dX12_next_213 : decode cX12_next 213 = .ok (.bipush 48, 2) := by decide +kernel
theorem dX12_next_215 : decode cX12_next 215 = .ok (.bipush 57, 2) := by decide +kernel
theorem dX12_next_217 : decode cX12_next 217 = .ok (.invokevirtual 115, 3) := by decide +kernel
theorem dX12_next_220 : decode cX12_next 220 = .ok (.ifCond .eq 87, 3) := by decide +kernel
theorem dX12_next_223 : decode cX12_next 223 = .ok (.aload_n 0, 1) := by decide +kernel
theorem dX12_next_224 : decode cX12_next 224 = .ok (.aload_n 0, 1) := by decide +kernel
theorem dX12_next_225 : decode cX12_next 225 = .ok (.getfield 122, 3) := by decide +kernel
theorem dX12_next_228 : decode cX12_next 228 = .ok (.ldc 138, 2) := by decide +kernel
theorem dX12_next_230 : decode cX12_next 230 = .ok (.if_icmp .le 8, 3) := by decide +kernel
theorem dX12_next_233 : decode cX12_next 233 = .ok (.ldc 139, 2) := by decide +kernel
theorem dX12_next_235 : decode cX12_next 235 = .ok (.goto 23, 3) := by decide +kernel
theorem dX12_next_238 : decode cX12_next 238 = .ok (.bipush 10, 2) := by decide +kernel
theorem dX12_next_240 : decode cX12_next 240 = .ok (.aload_n 0, 1) := by decide +kernel
theorem dX12_next_241 : decode cX12_next 241 = .ok (.getfield 122, 3) := by decide +kernel
theorem dX12_next_244 : decode cX12_next 244 = .ok (.imul, 1) := by decide +kernel
theorem dX12_next_245 : decode cX12_next 245 = .ok (.aload_n 0, 1) := by decide +kernel
theorem dX12_next_246 : decode cX12_next 246 = .ok (.getfield 23, 3) := by decide +kernel
theorem dX12_next_249 : decode cX12_next 249 = .ok (.aload_n 0, 1) := by decide +kernel
theorem dX12_next_250 : decode cX12_next 250 = .ok (.getfield 112, 3) := by decide +kernel
theorem dX12_next_253 : decode cX12_next 253 = .ok (.baload, 1) := by decide +kernel
theorem dX12_next_254 : decode cX12_next 254 = .ok (.iadd, 1) := by decide +kernel
theorem dX12_next_255 : decode cX12_next 255 = .ok (.bipush 48, 2) := by decide +kernel
theorem dX12_next_257 : decode cX12_next 257 = .ok (.isub, 1) := by decide +kernel
theorem dX12_next_258 : decode cX12_next 258 = .ok (.putfield 122, 3) := by decide +kernel
theorem dX12_next_261 : decode cX12_next 261 = .ok (.aload_n 0, 1) := by decide +kernel
theorem dX12_next_262 : decode cX12_next 262 = .ok (.dup, 1) := by decide +kernel
theorem dX12_next_263 : decode cX12_next 263 = .ok (.getfield 112, 3) := by decide +kernel
theorem dX12_next_266 : decode cX12_next 266 = .ok (.iconst 1, 1) := by decide +kernel
theorem dX12_next_267 : decode cX12_next 267 = .ok (.iadd, 1) := by decide +kernel
theorem dX12_next_268 : decode cX12_next 268 = .ok (.putfield 112, 3) := by decide +kernel
theorem dX12_next_271 : decode cX12_next 271 = .ok (.goto (-63), 3) := by decide +kernel
theorem dX12_next_274 : decode cX12_next 274 = .ok (.aload_n 0, 1) := by decide +kernel
theorem dX12_next_275 : decode cX12_next 275 = .ok (.aload_n 0, 1) := by decide +kernel
theorem dX12_next_276 : decode cX12_next 276 = .ok (.getfield 23, 3) := by decide +kernel
theorem dX12_next_279 : decode cX12_next 279 = .ok (.aload_n 0, 1) := by decide +kernel
theorem dX12_next_280 : decode cX12_next 280 = .ok (.getfield 112, 3) := by decide +kernel
theorem dX12_next_283 : decode cX12_next 283 = .ok (.baload, 1) := by decide +kernel
theorem dX12_next_284 : decode cX12_next 284 = .ok (.bipush 59, 2) := by decide +kernel
theorem dX12_next_286 : decode cX12_next 286 = .ok (.if_icmp .ne 7, 3) := by decide +kernel
theorem dX12_next_289 : decode cX12_next 289 = .ok (.iconst 3, 1) := by decide +kernel
theorem dX12_next_290 : decode cX12_next 290 = .ok (.goto 4, 3) := by decide +kernel
theorem dX12_next_293 : decode cX12_next 293 = .ok (.iconst 4, 1) := by decide +kernel
theorem dX12_next_294 : decode cX12_next 294 = .ok (.putfield 129, 3) := by decide +kernel
theorem dX12_next_297 : decode cX12_next 297 = .ok (.aload_n 0, 1) := by decide +kernel
theorem dX12_next_298 : decode cX12_next 298 = .ok (.dup, 1) := by decide +kernel
theorem dX12_next_299 : decode cX12_next 299 = .ok (.getfield 112, 3) := by decide +kernel
theorem dX12_next_302 : decode cX12_next 302 = .ok (.iconst 1, 1) := by decide +kernel
theorem dX12_next_303 : decode cX12_next 303 = .ok (.iadd, 1) := by decide +kernel
theorem dX12_next_304 : decode cX12_next 304 = .ok (.putfield 112, 3) := by decide +kernel
theorem dX12_next_307 : decode cX12_next 307 = .ok (.return_, 1) := by decide +kernel
theorem dX12_isGood_0 : decode cX12_isGood 0 = .ok (.aload_n 0, 1) := by decide +kernel
theorem dX12_isGood_1 : decode cX12_isGood 1 = .ok (.getfield 140, 3) := by decide +kernel
theorem dX12_isGood_4 : decode cX12_isGood 4 = .ok (.ifCond .ne 7, 3) := by decide +kernel
theorem dX12_isGood_7 : decode cX12_isGood 7 = .ok (.iconst 1, 1) := by decide +kernel
theorem dX12_isGood_8 : decode cX12_isGood 8 = .ok (.goto 4, 3) := by decide +kernel
theorem dX12_isGood_11 : decode cX12_isGood 11 = .ok (.iconst 0, 1) := by decide +kernel
theorem dX12_isGood_12 : decode cX12_isGood 12 = .ok (.ireturn, 1) := by decide +kernel
theorem dX12_fails_0 : decode cX12_fails 0 = .ok (.aload_n 0, 1) := by decide +kernel
theorem dX12_fails_1 : decode cX12_fails 1 = .ok (.getfield 140, 3) := by decide +kernel
theorem dX12_fails_4 : decode cX12_fails 4 = .ok (.ifCond .eq 4, 3) := by decide +kernel
theorem dX12_fails_7 : decode cX12_fails 7 = .ok (.return_, 1) := by decide +kernel
theorem dX12_fails_8 : decode cX12_fails 8 = .ok (.aload_n 0, 1) := by decide +kernel
theorem dX12_fails_9 : decode cX12_fails 9 = .ok (.iload_n 1, 1) := by decide +kernel
theorem dX12_fails_10 : decode cX12_fails 10 = .ok (.putfield 140, 3) := by decide +kernel
theorem dX12_fails_13 : decode cX12_fails 13 = .ok (.aload_n 0, 1) := by decide +kernel
theorem dX12_fails_14 : decode cX12_fails 14 = .ok (.aload_n 0, 1) := by decide +kernel
theorem dX12_fails_15 : decode cX12_fails 15 = .ok (.getfield 119, 3) := by decide +kernel
theorem dX12_fails_18 : decode cX12_fails 18 = .ok (.putfield 143, 3) := by decide +kernel
theorem dX12_fails_21 : decode cX12_fails 21 = .ok (.return_, 1) := by decide +kernel
theorem dX12_is_0 : decode cX12_is 0 = .ok (.aload_n 0, 1) := by decide +kernel
theorem dX12_is_1 : decode cX12_is 1 = .ok (.getfield 140, 3) := by decide +kernel
theorem dX12_is_4 : decode cX12_is 4 = .ok (.ifCond .ne 24, 3) := by decide +kernel
theorem dX12_is_7 : decode cX12_is 7 = .ok (.aload_n 0, 1) := by decide +kernel
theorem dX12_is_8 : decode cX12_is 8 = .ok (.getfield 129, 3) := by decide +kernel
theorem dX12_is_11 : decode cX12_is 11 = .ok (.iconst 1, 1) := by decide +kernel
theorem dX12_is_12 : decode cX12_is 12 = .ok (.if_icmp .ne 16, 3) := by decide +kernel
theorem dX12_is_15 : decode cX12_is 15 = .ok (.aload_n 0, 1) := by decide +kernel
theorem dX12_is_16 : decode cX12_is 16 = .ok (.getfield 125, 3) := by decide +kernel
theorem dX12_is_19 : decode cX12_is 19 = .ok (.lload_n 1, 1) := by decide +kernel
theorem dX12_is_20 : decode cX12_is 20 = .ok (.lcmp, 1) := by decide +kernel
theorem dX12_is_21 : decode cX12_is 21 = .ok (.ifCond .ne 7, 3) := by decide +kernel
theorem dX12_is_24 : decode cX12_is 24 = .ok (.iconst 1, 1) := by decide +kernel
theorem dX12_is_25 : decode cX12_is 25 = .ok (.goto 4, 3) := by decide +kernel
theorem dX12_is_28 : decode cX12_is 28 = .ok (.iconst 0, 1) := by decide +kernel
theorem dX12_is_29 : decode cX12_is 29 = .ok (.ireturn, 1) := by decide +kernel
theorem dX12_takes_0 : decode cX12_takes 0 = .ok (.aload_n 0, 1) := by decide +kernel
theorem dX12_takes_1 : decode cX12_takes 1 = .ok (.lload_n 1, 1) := by decide +kernel
theorem dX12_takes_2 : decode cX12_takes 2 = .ok (.invokevirtual 146, 3) := by decide +kernel
theorem dX12_takes_5 : decode cX12_takes 5 = .ok (.ifCond .ne 5, 3) := by decide +kernel
theorem dX12_takes_8 : decode cX12_takes 8 = .ok (.iconst 0, 1) := by decide +kernel
theorem dX12_takes_9 : decode cX12_takes 9 = .ok (.ireturn, 1) := by decide +kernel
theorem dX12_takes_10 : decode cX12_takes 10 = .ok (.aload_n 0, 1) := by decide +kernel
theorem dX12_takes_11 : decode cX12_takes 11 = .ok (.invokevirtual 150, 3) := by decide +kernel
theorem dX12_takes_14 : decode cX12_takes 14 = .ok (.iconst 1, 1) := by decide +kernel
theorem dX12_takes_15 : decode cX12_takes 15 = .ok (.ireturn, 1) := by decide +kernel
theorem dX12_asks_0 : decode cX12_asks 0 = .ok (.aload_n 0, 1) := by decide +kernel
theorem dX12_asks_1 : decode cX12_asks 1 = .ok (.lload_n 1, 1) := by decide +kernel
theorem dX12_asks_2 : decode cX12_asks 2 = .ok (.invokevirtual 153, 3) := by decide +kernel
theorem dX12_asks_5 : decode cX12_asks 5 = .ok (.ifCond .ne 8, 3) := by decide +kernel
theorem dX12_asks_8 : decode cX12_asks 8 = .ok (.aload_n 0, 1) := by decide +kernel
theorem dX12_asks_9 : decode cX12_asks 9 = .ok (.iconst 1, 1) := by decide +kernel
theorem dX12_asks_10 : decode cX12_asks 10 = .ok (.invokevirtual 156, 3) := by decide +kernel
theorem dX12_asks_13 : decode cX12_asks 13 = .ok (.return_, 1) := by decide +kernel
theorem dX12_number_0 : decode cX12_number 0 = .ok (.aload_n 0, 1) := by decide +kernel
theorem dX12_number_1 : decode cX12_number 1 = .ok (.getfield 140, 3) := by decide +kernel
theorem dX12_number_4 : decode cX12_number 4 = .ok (.ifCond .eq 5, 3) := by decide +kernel
theorem dX12_number_7 : decode cX12_number 7 = .ok (.iload_n 1, 1) := by decide +kernel
theorem dX12_number_8 : decode cX12_number 8 = .ok (.ireturn, 1) := by decide +kernel
theorem dX12_number_9 : decode cX12_number 9 = .ok (.aload_n 0, 1) := by decide +kernel
theorem dX12_number_10 : decode cX12_number 10 = .ok (.getfield 129, 3) := by decide +kernel
theorem dX12_number_13 : decode cX12_number 13 = .ok (.iconst 2, 1) := by decide +kernel
theorem dX12_number_14 : decode cX12_number 14 = .ok (.if_icmp .eq 10, 3) := by decide +kernel
theorem dX12_number_17 : decode cX12_number 17 = .ok (.aload_n 0, 1) := by decide +kernel
theorem dX12_number_18 : decode cX12_number 18 = .ok (.iconst 1, 1) := by decide +kernel
theorem dX12_number_19 : decode cX12_number 19 = .ok (.invokevirtual 156, 3) := by decide +kernel
theorem dX12_number_22 : decode cX12_number 22 = .ok (.iload_n 1, 1) := by decide +kernel
theorem dX12_number_23 : decode cX12_number 23 = .ok (.ireturn, 1) := by decide +kernel
theorem dX12_number_24 : decode cX12_number 24 = .ok (.aload_n 0, 1) := by decide +kernel
theorem dX12_number_25 : decode cX12_number 25 = .ok (.getfield 122, 3) := by decide +kernel
theorem dX12_number_28 : decode cX12_number 28 = .ok (.i2l, 1) := by decide +kernel
theorem dX12_number_29 : decode cX12_number 29 = .ok (.iload_n 1, 1) := by decide +kernel
theorem dX12_number_30 : decode cX12_number 30 = .ok (.i2l, 1) := by decide +kernel
theorem dX12_number_31 : decode cX12_number 31 = .ok (.iload_n 2, 1) := by decide +kernel
theorem dX12_number_32 : decode cX12_number 32 = .ok (.i2l, 1) := by decide +kernel
theorem dX12_number_33 : decode cX12_number 33 = .ok (.invokestatic 93, 3) := by decide +kernel
theorem dX12_number_36 : decode cX12_number 36 = .ok (.ifCond .ne 10, 3) := by decide +kernel
theorem dX12_number_39 : decode cX12_number 39 = .ok (.aload_n 0, 1) := by decide +kernel
theorem dX12_number_40 : decode cX12_number 40 = .ok (.iconst 2, 1) := by decide +kernel
theorem dX12_number_41 : decode cX12_number 41 = .ok (.invokevirtual 156, 3) := by decide +kernel
theorem dX12_number_44 : decode cX12_number 44 = .ok (.iload_n 1, 1) := by decide +kernel
theorem dX12_number_45 : decode cX12_number 45 = .ok (.ireturn, 1) := by decide +kernel
theorem dX12_number_46 : decode cX12_number 46 = .ok (.aload_n 0, 1) := by decide +kernel
theorem dX12_number_47 : decode cX12_number 47 = .ok (.getfield 122, 3) := by decide +kernel
theorem dX12_number_50 : decode cX12_number 50 = .ok (.istore_n 3, 1) := by decide +kernel
theorem dX12_number_51 : decode cX12_number 51 = .ok (.aload_n 0, 1) := by decide +kernel
theorem dX12_number_52 : decode cX12_number 52 = .ok (.invokevirtual 150, 3) := by decide +kernel
theorem dX12_number_55 : decode cX12_number 55 = .ok (.iload_n 3, 1) := by decide +kernel
theorem dX12_number_56 : decode cX12_number 56 = .ok (.ireturn, 1) := by decide +kernel
theorem dX12_number__0 : decode cX12_number_ 0 = .ok (.aload_n 0, 1) := by decide +kernel
theorem dX12_number__1 : decode cX12_number_ 1 = .ok (.lload_n 1, 1) := by decide +kernel
theorem dX12_number__2 : decode cX12_number_ 2 = .ok (.invokevirtual 159, 3) := by decide +kernel
theorem dX12_number__5 : decode cX12_number_ 5 = .ok (.aload_n 0, 1) := by decide +kernel
theorem dX12_number__6 : decode cX12_number_ 6 = .ok (.iload_n 3, 1) := by decide +kernel
theorem dX12_number__7 : decode cX12_number_ 7 = .ok (.iload 4, 2) := by decide +kernel
theorem dX12_number__9 : decode cX12_number_ 9 = .ok (.invokevirtual 163, 3) := by decide +kernel
theorem dX12_number__12 : decode cX12_number_ 12 = .ok (.ireturn, 1) := by decide +kernel
theorem dX12_ends_0 : decode cX12_ends 0 = .ok (.aload_n 0, 1) := by decide +kernel
theorem dX12_ends_1 : decode cX12_ends 1 = .ok (.getfield 129, 3) := by decide +kernel
theorem dX12_ends_4 : decode cX12_ends 4 = .ok (.iconst 3, 1) := by decide +kernel
theorem dX12_ends_5 : decode cX12_ends 5 = .ok (.if_icmp .eq 8, 3) := by decide +kernel
theorem dX12_ends_8 : decode cX12_ends 8 = .ok (.aload_n 0, 1) := by decide +kernel
theorem dX12_ends_9 : decode cX12_ends 9 = .ok (.iconst 1, 1) := by decide +kernel
theorem dX12_ends_10 : decode cX12_ends 10 = .ok (.invokevirtual 156, 3) := by decide +kernel
theorem dX12_ends_13 : decode cX12_ends 13 = .ok (.aload_n 0, 1) := by decide +kernel
theorem dX12_ends_14 : decode cX12_ends 14 = .ok (.getfield 140, 3) := by decide +kernel
theorem dX12_ends_17 : decode cX12_ends 17 = .ok (.ifCond .ne 7, 3) := by decide +kernel
theorem dX12_ends_20 : decode cX12_ends 20 = .ok (.aload_n 0, 1) := by decide +kernel
theorem dX12_ends_21 : decode cX12_ends 21 = .ok (.invokevirtual 150, 3) := by decide +kernel
theorem dX12_ends_24 : decode cX12_ends 24 = .ok (.return_, 1) := by decide +kernel
theorem dX12_begins_0 : decode cX12_begins 0 = .ok (.aload_n 0, 1) := by decide +kernel
theorem dX12_begins_1 : decode cX12_begins 1 = .ok (.iconst 0, 1) := by decide +kernel
theorem dX12_begins_2 : decode cX12_begins 2 = .ok (.putfield 140, 3) := by decide +kernel
theorem dX12_begins_5 : decode cX12_begins 5 = .ok (.aload_n 0, 1) := by decide +kernel
theorem dX12_begins_6 : decode cX12_begins 6 = .ok (.iconst (-1), 1) := by decide +kernel
theorem dX12_begins_7 : decode cX12_begins 7 = .ok (.putfield 143, 3) := by decide +kernel
theorem dX12_begins_10 : decode cX12_begins 10 = .ok (.aload_n 0, 1) := by decide +kernel
theorem dX12_begins_11 : decode cX12_begins 11 = .ok (.iconst 0, 1) := by decide +kernel
theorem dX12_begins_12 : decode cX12_begins 12 = .ok (.putfield 112, 3) := by decide +kernel
theorem dX12_begins_15 : decode cX12_begins 15 = .ok (.aload_n 0, 1) := by decide +kernel
theorem dX12_begins_16 : decode cX12_begins 16 = .ok (.invokevirtual 150, 3) := by decide +kernel
theorem dX12_begins_19 : decode cX12_begins 19 = .ok (.return_, 1) := by decide +kernel
theorem dX12_isOver_0 : decode cX12_isOver 0 = .ok (.aload_n 0, 1) := by decide +kernel
theorem dX12_isOver_1 : decode cX12_isOver 1 = .ok (.iconst 0, 1) := by decide +kernel
theorem dX12_isOver_2 : decode cX12_isOver 2 = .ok (.putfield 105, 3) := by decide +kernel
theorem dX12_isOver_5 : decode cX12_isOver 5 = .ok (.aload_n 0, 1) := by decide +kernel
theorem dX12_isOver_6 : decode cX12_isOver 6 = .ok (.aload_n 0, 1) := by decide +kernel
theorem dX12_isOver_7 : decode cX12_isOver 7 = .ok (.getfield 140, 3) := by decide +kernel
theorem dX12_isOver_10 : decode cX12_isOver 10 = .ok (.putfield 167, 3) := by decide +kernel
theorem dX12_isOver_13 : decode cX12_isOver 13 = .ok (.aload_n 0, 1) := by decide +kernel
theorem dX12_isOver_14 : decode cX12_isOver 14 = .ok (.aload_n 0, 1) := by decide +kernel
theorem dX12_isOver_15 : decode cX12_isOver 15 = .ok (.getfield 140, 3) := by decide +kernel
theorem dX12_isOver_18 : decode cX12_isOver 18 = .ok (.ifCond .ne 7, 3) := by decide +kernel
theorem dX12_isOver_21 : decode cX12_isOver 21 = .ok (.iconst (-1), 1) := by decide +kernel
theorem dX12_isOver_22 : decode cX12_isOver 22 = .ok (.goto 7, 3) := by decide +kernel
theorem dX12_isOver_25 : decode cX12_isOver 25 = .ok (.aload_n 0, 1) := by decide +kernel
theorem dX12_isOver_26 : decode cX12_isOver 26 = .ok (.getfield 143, 3) := by decide +kernel
theorem dX12_isOver_29 : decode cX12_isOver 29 = .ok (.putfield 27, 3) := by decide +kernel
theorem dX12_isOver_32 : decode cX12_isOver 32 = .ok (.return_, 1) := by decide +kernel
theorem dX12_fault_0 : decode cX12_fault 0 = .ok (.aload_n 0, 1) := by decide +kernel
theorem dX12_fault_1 : decode cX12_fault 1 = .ok (.iconst 0, 1) := by decide +kernel
theorem dX12_fault_2 : decode cX12_fault 2 = .ok (.putfield 88, 3) := by decide +kernel
theorem dX12_fault_5 : decode cX12_fault 5 = .ok (.iload_n 1, 1) := by decide +kernel
theorem dX12_fault_6 : decode cX12_fault 6 = .ok (.ifCond .ne 10, 3) := by decide +kernel
theorem dX12_fault_9 : decode cX12_fault 9 = .ok (.aload_n 0, 1) := by decide +kernel
theorem dX12_fault_10 : decode cX12_fault 10 = .ok (.getfield 167, 3) := by decide +kernel
theorem dX12_fault_13 : decode cX12_fault 13 = .ok (.goto 16, 3) := by decide +kernel
theorem dX12_fault_16 : decode cX12_fault 16 = .ok (.iload_n 1, 1) := by decide +kernel
theorem dX12_fault_17 : decode cX12_fault 17 = .ok (.iconst 1, 1) := by decide +kernel
theorem dX12_fault_18 : decode cX12_fault 18 = .ok (.if_icmp .ne 10, 3) := by decide +kernel
theorem dX12_fault_21 : decode cX12_fault 21 = .ok (.aload_n 0, 1) := by decide +kernel
theorem dX12_fault_22 : decode cX12_fault 22 = .ok (.getfield 27, 3) := by decide +kernel
theorem dX12_fault_25 : decode cX12_fault 25 = .ok (.goto 4, 3) := by decide +kernel
theorem dX12_fault_28 : decode cX12_fault 28 = .ok (.iconst (-1), 1) := by decide +kernel
theorem dX12_fault_29 : decode cX12_fault 29 = .ok (.ireturn, 1) := by decide +kernel
theorem dX12_hasRead_0 : decode cX12_hasRead 0 = .ok (.aload_n 0, 1) := by decide +kernel
theorem dX12_hasRead_1 : decode cX12_hasRead 1 = .ok (.getfield 34, 3) := by decide +kernel
theorem dX12_hasRead_4 : decode cX12_hasRead 4 = .ok (.bipush 28, 2) := by decide +kernel
theorem dX12_hasRead_6 : decode cX12_hasRead 6 = .ok (.iload_n 1, 1) := by decide +kernel
theorem dX12_hasRead_7 : decode cX12_hasRead 7 = .ok (.iadd, 1) := by decide +kernel
theorem dX12_hasRead_8 : decode cX12_hasRead 8 = .ok (.iaload, 1) := by decide +kernel
theorem dX12_hasRead_9 : decode cX12_hasRead 9 = .ok (.ireturn, 1) := by decide +kernel
theorem dX12_tells_0 : decode cX12_tells 0 = .ok (.aload_n 0, 1) := by decide +kernel
theorem dX12_tells_1 : decode cX12_tells 1 = .ok (.getfield 34, 3) := by decide +kernel
theorem dX12_tells_4 : decode cX12_tells 4 = .ok (.bipush 28, 2) := by decide +kernel
theorem dX12_tells_6 : decode cX12_tells 6 = .ok (.iload_n 1, 1) := by decide +kernel
theorem dX12_tells_7 : decode cX12_tells 7 = .ok (.iadd, 1) := by decide +kernel
theorem dX12_tells_8 : decode cX12_tells 8 = .ok (.iload_n 2, 1) := by decide +kernel
theorem dX12_tells_9 : decode cX12_tells 9 = .ok (.iastore, 1) := by decide +kernel
theorem dX12_tells_10 : decode cX12_tells 10 = .ok (.return_, 1) := by decide +kernel
theorem dX12_personLine_0 : decode cX12_personLine 0 = .ok (.aload_n 0, 1) := by decide +kernel
theorem dX12_personLine_1 : decode cX12_personLine 1 = .ok (.iconst 2, 1) := by decide +kernel
theorem dX12_personLine_2 : decode cX12_personLine 2 = .ok (.invokevirtual 170, 3) := by decide +kernel
theorem dX12_personLine_5 : decode cX12_personLine 5 = .ok (.istore_n 1, 1) := by decide +kernel
theorem dX12_personLine_6 : decode cX12_personLine 6 = .ok (.aload_n 0, 1) := by decide +kernel
theorem dX12_personLine_7 : decode cX12_personLine 7 = .ok (.getfield 37, 3) := by decide +kernel
theorem dX12_personLine_10 : decode cX12_personLine 10 = .ok (.bipush 24, 2) := by decide +kernel
theorem dX12_personLine_12 : decode cX12_personLine 12 = .ok (.iload_n 1, 1) := by decide +kernel
theorem dX12_personLine_13 : decode cX12_personLine 13 = .ok (.iadd, 1) := by decide +kernel
theorem dX12_personLine_14 : decode cX12_personLine 14 = .ok (.aload_n 0, 1) := by decide +kernel
theorem dX12_personLine_15 : decode cX12_personLine 15 = .ok (.ldc2_w 174, 3) := by decide +kernel
theorem dX12_personLine_18 : decode cX12_personLine 18 = .ok (.iconst 0, 1) := by decide +kernel
theorem dX12_personLine_19 : decode cX12_personLine 19 = .ok (.bipush 100, 2) := by decide +kernel
theorem dX12_personLine_21 : decode cX12_personLine 21 = .ok (.invokevirtual 176, 3) := by decide +kernel
theorem dX12_personLine_24 : decode cX12_personLine 24 = .ok (.iastore, 1) := by decide +kernel
theorem dX12_personLine_25 : decode cX12_personLine 25 = .ok (.aload_n 0, 1) := by decide +kernel
theorem dX12_personLine_26 : decode cX12_personLine 26 = .ok (.getfield 40, 3) := by decide +kernel
theorem dX12_personLine_29 : decode cX12_personLine 29 = .ok (.bipush 24, 2) := by decide +kernel
theorem dX12_personLine_31 : decode cX12_personLine 31 = .ok (.iload_n 1, 1) := by decide +kernel
theorem dX12_personLine_32 : decode cX12_personLine 32 = .ok (.iadd, 1) := by decide +kernel
theorem dX12_personLine_33 : decode cX12_personLine 33 = .ok (.aload_n 0, 1) := by decide +kernel
theorem dX12_personLine_34 : decode cX12_personLine 34 = .ok (.ldc2_w 179, 3) := by decide +kernel
theorem dX12_personLine_37 : decode cX12_personLine 37 = .ok (.iconst 0, 1) := by decide +kernel
theorem dX12_personLine_38 : decode cX12_personLine 38 = .ok (.bipush 9, 2) := by decide +kernel
theorem dX12_personLine_40 : decode cX12_personLine 40 = .ok (.invokevirtual 176, 3) := by decide +kernel
theorem dX12_personLine_43 : decode cX12_personLine 43 = .ok (.iastore, 1) := by decide +kernel
theorem dX12_personLine_44 : decode cX12_personLine 44 = .ok (.aload_n 0, 1) := by decide +kernel
theorem dX12_personLine_45 : decode cX12_personLine 45 = .ok (.invokevirtual 181, 3) := by decide +kernel
theorem dX12_personLine_48 : decode cX12_personLine 48 = .ok (.ifCond .eq 89, 3) := by decide +kernel
theorem dX12_personLine_51 : decode cX12_personLine 51 = .ok (.aload_n 0, 1) := by decide +kernel
theorem dX12_personLine_52 : decode cX12_personLine 52 = .ok (.getfield 129, 3) := by decide +kernel
theorem dX12_personLine_55 : decode cX12_personLine 55 = .ok (.iconst 1, 1) := by decide +kernel
theorem dX12_personLine_56 : decode cX12_personLine 56 = .ok (.if_icmp .ne 81, 3) := by decide +kernel
theorem dX12_personLine_59 : decode cX12_personLine 59 = .ok (.aload_n 0, 1) := by decide +kernel
theorem dX12_personLine_60 : decode cX12_personLine 60 = .ok (.ldc2_w 185, 3) := by decide +kernel
theorem dX12_personLine_63 : decode cX12_personLine 63 = .ok (.invokevirtual 146, 3) := by decide +kernel
theorem dX12_personLine_66 : decode cX12_personLine 66 = .ok (.istore_n 2, 1) := by decide +kernel
theorem dX12_personLine_67 : decode cX12_personLine 67 = .ok (.iload_n 2, 1) := by decide +kernel
theorem dX12_personLine_68 : decode cX12_personLine 68 = .ok (.ifCond .eq 7, 3) := by decide +kernel
theorem dX12_personLine_71 : decode cX12_personLine 71 = .ok (.iconst 4, 1) := by decide +kernel
theorem dX12_personLine_72 : decode cX12_personLine 72 = .ok (.goto 4, 3) := by decide +kernel
theorem dX12_personLine_75 : decode cX12_personLine 75 = .ok (.iconst 5, 1) := by decide +kernel
theorem dX12_personLine_76 : decode cX12_personLine 76 = .ok (.istore_n 3, 1) := by decide +kernel
theorem dX12_personLine_77 : decode cX12_personLine 77 = .ok (.iload_n 2, 1) := by decide +kernel
theorem dX12_personLine_78 : decode cX12_personLine 78 = .ok (.ifCond .ne 13, 3) := by decide +kernel
theorem dX12_personLine_81 : decode cX12_personLine 81 = .ok (.aload_n 0, 1) := by decide +kernel
theorem dX12_personLine_82 : decode cX12_personLine 82 = .ok (.ldc2_w 187, 3) := by decide +kernel
theorem dX12_personLine_85 : decode cX12_personLine 85 = .ok (.invokevirtual 146, 3) := by decide +kernel
theorem dX12_personLine_88 : decode cX12_personLine 88 = .ok (.ifCond .eq 15, 3) := by decide +kernel
theorem dX12_personLine_91 : decode cX12_personLine 91 = .ok (.aload_n 0, 1) := by decide +kernel
theorem dX12_personLine_92 : decode cX12_personLine 92 = .ok (.iload_n 3, 1) := by decide +kernel
theorem dX12_personLine_93 : decode cX12_personLine 93 = .ok (.invokevirtual 170, 3) := by decide +kernel
theorem dX12_personLine_96 : decode cX12_personLine 96 = .ok (.iload_n 1, 1) := by decide +kernel
theorem dX12_personLine_97 : decode cX12_personLine 97 = .ok (.invokestatic 189, 3) := by decide +kernel
theorem dX12_personLine_100 : decode cX12_personLine 100 = .ok (.ifCond .eq 8, 3) := by decide +kernel
theorem dX12_personLine_103 : decode cX12_personLine 103 = .ok (.aload_n 0, 1) := by decide +kernel
theorem dX12_personLine_104 : decode cX12_personLine 104 = .ok (.iconst 1, 1) := by decide +kernel
theorem dX12_personLine_105 : decode cX12_personLine 105 = .ok (.invokevirtual 156, 3) := by decide +kernel
theorem dX12_personLine_108 : decode cX12_personLine 108 = .ok (.aload_n 0, 1) := by decide +kernel
theorem dX12_personLine_109 : decode cX12_personLine 109 = .ok (.getfield 140, 3) := by decide +kernel
theorem dX12_personLine_112 : decode cX12_personLine 112 = .ok (.ifCond .eq 4, 3) := by decide +kernel
theorem dX12_personLine_115 : decode cX12_personLine 115 = .ok (.return_, 1) := by decide +kernel
theorem dX12_personLine_116 : decode cX12_personLine 116 = .ok (.aload_n 0, 1) := by decide +kernel
theorem dX12_personLine_117 : decode cX12_personLine 117 = .ok (.invokevirtual 150, 3) := by decide +kernel
theorem dX12_personLine_120 : decode cX12_personLine 120 = .ok (.aload_n 0, 1) := by decide +kernel
theorem dX12_personLine_121 : decode cX12_personLine 121 = .ok (.iload_n 3, 1) := by decide +kernel
theorem dX12_personLine_122 : decode cX12_personLine 122 = .ok (.aload_n 0, 1) := by decide +kernel
theorem dX12_personLine_123 : decode cX12_personLine 123 = .ok (.iload_n 3, 1) := by decide +kernel
theorem dX12_personLine_124 : decode cX12_personLine 124 = .ok (.invokevirtual 170, 3) := by decide +kernel
theorem dX12_personLine_127 : decode cX12_personLine 127 = .ok (.iconst 1, 1) := by decide +kernel
theorem dX12_personLine_128 : decode cX12_personLine 128 = .ok (.iload_n 1, 1) := by decide +kernel
theorem dX12_personLine_129 : decode cX12_personLine 129 = .ok (.ishl, 1) := by decide +kernel
theorem dX12_personLine_130 : decode cX12_personLine 130 = .ok (.ior, 1) := by decide +kernel
theorem dX12_personLine_131 : decode cX12_personLine 131 = .ok (.invokevirtual 193, 3) := by decide +kernel
theorem dX12_personLine_134 : decode cX12_personLine 134 = .ok (.goto (-90), 3) := by decide +kernel
theorem dX12_personLine_137 : decode cX12_personLine 137 = .ok (.aload_n 0, 1) := by decide +kernel
theorem dX12_personLine_138 : decode cX12_personLine 138 = .ok (.iconst 2, 1) := by decide +kernel
theorem dX12_personLine_139 : decode cX12_personLine 139 = .ok (.iload_n 1, 1) := by decide +kernel
theorem dX12_personLine_140 : decode cX12_personLine 140 = .ok (.iconst 1, 1) := by decide +kernel
theorem dX12_personLine_141 : decode cX12_personLine 141 = .ok (.iadd, 1) := by decide +kernel
theorem dX12_personLine_142 : decode cX12_personLine 142 = .ok (.invokevirtual 193, 3) := by decide +kernel
theorem dX12_personLine_145 : decode cX12_personLine 145 = .ok (.return_, 1) := by decide +kernel
theorem dX12_line_0 : decode cX12_line 0 = .ok (.aload_n 0, 1) := by decide +kernel
theorem dX12_line_1 : decode cX12_line 1 = .ok (.ldc2_w 197, 3) := by decide +kernel
theorem dX12_line_4 : decode cX12_line 4 = .ok (.invokevirtual 146, 3) := by decide +kernel
theorem dX12_line_7 : decode cX12_line 7 = .ok (.istore_n 1, 1) := by decide +kernel
theorem dX12_line_8 : decode cX12_line 8 = .ok (.aload_n 0, 1) := by decide +kernel
theorem dX12_line_9 : decode cX12_line 9 = .ok (.ldc2_w 199, 3) := by decide +kernel
theorem dX12_line_12 : decode cX12_line 12 = .ok (.invokevirtual 146, 3) := by decide +kernel
theorem dX12_line_15 : decode cX12_line 15 = .ok (.istore_n 2, 1) := by decide +kernel
theorem dX12_line_16 : decode cX12_line 16 = .ok (.iload_n 1, 1) := by decide +kernel
theorem dX12_line_17 : decode cX12_line 17 = .ok (.ifCond .ne 12, 3) := by decide +kernel
theorem dX12_line_20 : decode cX12_line 20 = .ok (.iload_n 2, 1) := by decide +kernel
theorem dX12_line_21 : decode cX12_line 21 = .ok (.ifCond .ne 8, 3) := by decide +kernel
theorem dX12_line_24 : decode cX12_line 24 = .ok (.aload_n 0, 1) := by decide +kernel
theorem dX12_line_25 : decode cX12_line 25 = .ok (.iconst 1, 1) := by decide +kernel
theorem dX12_line_26 : decode cX12_line 26 = .ok (.invokevirtual 156, 3) := by decide +kernel
theorem dX12_line_29 : decode cX12_line 29 = .ok (.iload_n 1, 1) := by decide +kernel
theorem dX12_line_30 : decode cX12_line 30 = .ok (.ifCond .eq 13, 3) := by decide +kernel
theorem dX12_line_33 : decode cX12_line 33 = .ok (.aload_n 0, 1) := by decide +kernel
theorem dX12_line_34 : decode cX12_line 34 = .ok (.iconst 2, 1) := by decide +kernel
theorem dX12_line_35 : decode cX12_line 35 = .ok (.invokevirtual 170, 3) := by decide +kernel
theorem dX12_line_38 : decode cX12_line 38 = .ok (.bipush 6, 2) := by decide +kernel
theorem dX12_line_40 : decode cX12_line 40 = .ok (.if_icmp .eq 16, 3) := by decide +kernel
theorem dX12_line_43 : decode cX12_line 43 = .ok (.iload_n 2, 1) := by decide +kernel
theorem dX12_line_44 : decode cX12_line 44 = .ok (.ifCond .eq 17, 3) := by decide +kernel
theorem dX12_line_47 : decode cX12_line 47 = .ok (.aload_n 0, 1) := by decide +kernel
theorem dX12_line_48 : decode cX12_line 48 = .ok (.iconst 3, 1) := by decide +kernel
theorem dX12_line_49 : decode cX12_line 49 = .ok (.invokevirtual 170, 3) := by decide +kernel
theorem dX12_line_52 : decode cX12_line 52 = .ok (.iconst 2, 1) := by decide +kernel
theorem dX12_line_53 : decode cX12_line 53 = .ok (.if_icmp .ne 8, 3) := by decide +kernel
theorem dX12_line_56 : decode cX12_line 56 = .ok (.aload_n 0, 1) := by decide +kernel
theorem dX12_line_57 : decode cX12_line 57 = .ok (.iconst 3, 1) := by decide +kernel
theorem dX12_line_58 : decode cX12_line 58 = .ok (.invokevirtual 156, 3) := by decide +kernel
theorem dX12_line_61 : decode cX12_line 61 = .ok (.aload_n 0, 1) := by decide +kernel
theorem dX12_line_62 : decode cX12_line 62 = .ok (.getfield 140, 3) := by decide +kernel
theorem dX12_line_65 : decode cX12_line 65 = .ok (.ifCond .eq 4, 3) := by decide +kernel
theorem dX12_line_68 : decode cX12_line 68 = .ok (.return_, 1) := by decide +kernel
theorem dX12_line_69 : decode cX12_line 69 = .ok (.aload_n 0, 1) := by decide +kernel
theorem dX12_line_70 : decode cX12_line 70 = .ok (.invokevirtual 150, 3) := by decide +kernel
theorem dX12_line_73 : decode cX12_line 73 = .ok (.iload_n 1, 1) := by decide +kernel
theorem dX12_line_74 : decode cX12_line 74 = .ok (.ifCond .eq 8, 3) := by decide +kernel
theorem dX12_line_77 : decode cX12_line 77 = .ok (.aload_n 0, 1) := by decide +kernel
theorem dX12_line_78 : decode cX12_line 78 = .ok (.invokevirtual 201, 3) := by decide +kernel
theorem dX12_line_81 : decode cX12_line 81 = .ok (.return_, 1) := by decide +kernel
theorem dX12_line_82 : decode cX12_line 82 = .ok (.iconst 3, 1) := by decide +kernel
theorem dX12_line_83 : decode cX12_line 83 = .ok (.bipush 8, 2) := by decide +kernel
theorem dX12_line_85 : decode cX12_line 85 = .ok (.aload_n 0, 1) := by decide +kernel
theorem dX12_line_86 : decode cX12_line 86 = .ok (.iconst 3, 1) := by decide +kernel
theorem dX12_line_87 : decode cX12_line 87 = .ok (.invokevirtual 170, 3) := by decide +kernel
theorem dX12_line_90 : decode cX12_line 90 = .ok (.iadd, 1) := by decide +kernel
theorem dX12_line_91 : decode cX12_line 91 = .ok (.imul, 1) := by decide +kernel
theorem dX12_line_92 : decode cX12_line 92 = .ok (.istore_n 3, 1) := by decide +kernel
theorem dX12_line_93 : decode cX12_line 93 = .ok (.aload_n 0, 1) := by decide +kernel
theorem dX12_line_94 : decode cX12_line 94 = .ok (.getfield 43, 3) := by decide +kernel
theorem dX12_line_97 : decode cX12_line 97 = .ok (.iload_n 3, 1) := by decide +kernel
theorem dX12_line_98 : decode cX12_line 98 = .ok (.aload_n 0, 1) := by decide +kernel
theorem dX12_line_99 : decode cX12_line 99 = .ok (.ldc2_w 204, 3) := by decide +kernel
theorem dX12_line_102 : decode cX12_line 102 = .ok (.iconst 0, 1) := by decide +kernel
theorem dX12_line_103 : decode cX12_line 103 = .ok (.bipush 100, 2) := by decide +kernel
theorem dX12_line_105 : decode cX12_line 105 = .ok (.invokevirtual 176, 3) := by decide +kernel
theorem dX12_line_108 : decode cX12_line 108 = .ok (.iastore, 1) := by decide +kernel
theorem dX12_line_109 : decode cX12_line 109 = .ok (.aload_n 0, 1) := by decide +kernel
theorem dX12_line_110 : decode cX12_line 110 = .ok (.getfield 43, 3) := by decide +kernel
theorem dX12_line_113 : decode cX12_line 113 = .ok (.iload_n 3, 1) := by decide +kernel
theorem dX12_line_114 : decode cX12_line 114 = .ok (.iconst 1, 1) := by decide +kernel
theorem dX12_line_115 : decode cX12_line 115 = .ok (.iadd, 1) := by decide +kernel
theorem dX12_line_116 : decode cX12_line 116 = .ok (.aload_n 0, 1) := by decide +kernel
theorem dX12_line_117 : decode cX12_line 117 = .ok (.ldc2_w 206, 3) := by decide +kernel
theorem dX12_line_120 : decode cX12_line 120 = .ok (.iconst 0, 1) := by decide +kernel
theorem dX12_line_121 : decode cX12_line 121 = .ok (.bipush 9, 2) := by decide +kernel
theorem dX12_line_123 : decode cX12_line 123 = .ok (.invokevirtual 176, 3) := by decide +kernel
theorem dX12_line_126 : decode cX12_line 126 = .ok (.iastore, 1) := by decide +kernel
theorem dX12_line_127 : decode cX12_line 127 = .ok (.aload_n 0, 1) := by decide +kernel
theorem dX12_line_128 : decode cX12_line 128 = .ok (.getfield 43, 3) := by decide +kernel
theorem dX12_line_131 : decode cX12_line 131 = .ok (.iload_n 3, 1) := by decide +kernel
theorem dX12_line_132 : decode cX12_line 132 = .ok (.iconst 2, 1) := by decide +kernel
theorem dX12_line_133 : decode cX12_line 133 = .ok (.iadd, 1) := by decide +kernel
theorem dX12_line_134 : decode cX12_line 134 = .ok (.aload_n 0, 1) := by decide +kernel
theorem dX12_line_135 : decode cX12_line 135 = .ok (.ldc2_w 208, 3) := by decide +kernel
theorem dX12_line_138 : decode cX12_line 138 = .ok (.iconst 0, 1) := by decide +kernel
theorem dX12_line_139 : decode cX12_line 139 = .ok (.iconst 3, 1) := by decide +kernel
theorem dX12_line_140 : decode cX12_line 140 = .ok (.invokevirtual 176, 3) := by decide +kernel
theorem dX12_line_143 : decode cX12_line 143 = .ok (.iastore, 1) := by decide +kernel
theorem dX12_line_144 : decode cX12_line 144 = .ok (.aload_n 0, 1) := by decide +kernel
theorem dX12_line_145 : decode cX12_line 145 = .ok (.iconst 3, 1) := by decide +kernel
theorem dX12_line_146 : decode cX12_line 146 = .ok (.aload_n 0, 1) := by decide +kernel
theorem dX12_line_147 : decode cX12_line 147 = .ok (.iconst 3, 1) := by decide +kernel
theorem dX12_line_148 : decode cX12_line 148 = .ok (.invokevirtual 170, 3) := by decide +kernel
theorem dX12_line_151 : decode cX12_line 151 = .ok (.iconst 1, 1) := by decide +kernel
theorem dX12_line_152 : decode cX12_line 152 = .ok (.iadd, 1) := by decide +kernel
theorem dX12_line_153 : decode cX12_line 153 = .ok (.invokevirtual 193, 3) := by decide +kernel
theorem dX12_line_156 : decode cX12_line 156 = .ok (.return_, 1) := by decide +kernel
theorem dX12_clears_0 : decode cX12_clears 0 = .ok (.aload_n 0, 1) := by decide +kernel
theorem dX12_clears_1 : decode cX12_clears 1 = .ok (.getfield 31, 3) := by decide +kernel
theorem dX12_clears_4 : decode cX12_clears 4 = .ok (.iconst 4, 1) := by decide +kernel
theorem dX12_clears_5 : decode cX12_clears 5 = .ok (.iconst 0, 1) := by decide +kernel
theorem dX12_clears_6 : decode cX12_clears 6 = .ok (.iastore, 1) := by decide +kernel
theorem dX12_clears_7 : decode cX12_clears 7 = .ok (.iconst 0, 1) := by decide +kernel
theorem dX12_clears_8 : decode cX12_clears 8 = .ok (.istore_n 1, 1) := by decide +kernel
theorem dX12_clears_9 : decode cX12_clears 9 = .ok (.iload_n 1, 1) := by decide +kernel
theorem dX12_clears_10 : decode cX12_clears 10 = .ok (.bipush 7, 2) := by decide +kernel
theorem dX12_clears_12 : decode cX12_clears 12 = .ok (.if_icmp .ge 15, 3) := by decide +kernel
theorem dX12_clears_15 : decode cX12_clears 15 = .ok (.aload_n 0, 1) := by decide +kernel
theorem dX12_clears_16 : decode cX12_clears 16 = .ok (.iload_n 1, 1) := by decide +kernel
theorem dX12_clears_17 : decode cX12_clears 17 = .ok (.iconst 0, 1) := by decide +kernel
theorem dX12_clears_18 : decode cX12_clears 18 = .ok (.invokevirtual 193, 3) := by decide +kernel
theorem dX12_clears_21 : decode cX12_clears 21 = .ok (.iinc 1 1, 3) := by decide +kernel
theorem dX12_clears_24 : decode cX12_clears 24 = .ok (.goto (-15), 3) := by decide +kernel
theorem dX12_clears_27 : decode cX12_clears 27 = .ok (.return_, 1) := by decide +kernel
theorem dX12_family_0 : decode cX12_family 0 = .ok (.aload_n 0, 1) := by decide +kernel
theorem dX12_family_1 : decode cX12_family 1 = .ok (.iconst 0, 1) := by decide +kernel
theorem dX12_family_2 : decode cX12_family 2 = .ok (.putfield 88, 3) := by decide +kernel
theorem dX12_family_5 : decode cX12_family 5 = .ok (.aload_n 0, 1) := by decide +kernel
theorem dX12_family_6 : decode cX12_family 6 = .ok (.invokevirtual 210, 3) := by decide +kernel
theorem dX12_family_9 : decode cX12_family 9 = .ok (.aload_n 0, 1) := by decide +kernel
theorem dX12_family_10 : decode cX12_family 10 = .ok (.invokevirtual 213, 3) := by decide +kernel
theorem dX12_family_13 : decode cX12_family 13 = .ok (.aload_n 0, 1) := by decide +kernel
theorem dX12_family_14 : decode cX12_family 14 = .ok (.invokevirtual 181, 3) := by decide +kernel
theorem dX12_family_17 : decode cX12_family 17 = .ok (.ifCond .eq 99, 3) := by decide +kernel
theorem dX12_family_20 : decode cX12_family 20 = .ok (.aload_n 0, 1) := by decide +kernel
theorem dX12_family_21 : decode cX12_family 21 = .ok (.getfield 129, 3) := by decide +kernel
theorem dX12_family_24 : decode cX12_family 24 = .ok (.ifCond .eq 92, 3) := by decide +kernel
theorem dX12_family_27 : decode cX12_family 27 = .ok (.aload_n 0, 1) := by decide +kernel
theorem dX12_family_28 : decode cX12_family 28 = .ok (.getfield 31, 3) := by decide +kernel
theorem dX12_family_31 : decode cX12_family 31 = .ok (.iconst 4, 1) := by decide +kernel
theorem dX12_family_32 : decode cX12_family 32 = .ok (.iaload, 1) := by decide +kernel
theorem dX12_family_33 : decode cX12_family 33 = .ok (.ifCond .ne 55, 3) := by decide +kernel
theorem dX12_family_36 : decode cX12_family 36 = .ok (.aload_n 0, 1) := by decide +kernel
theorem dX12_family_37 : decode cX12_family 37 = .ok (.ldc2_w 216, 3) := by decide +kernel
theorem dX12_family_40 : decode cX12_family 40 = .ok (.invokevirtual 159, 3) := by decide +kernel
theorem dX12_family_43 : decode cX12_family 43 = .ok (.aload_n 0, 1) := by decide +kernel
theorem dX12_family_44 : decode cX12_family 44 = .ok (.iconst 0, 1) := by decide +kernel
theorem dX12_family_45 : decode cX12_family 45 = .ok (.aload_n 0, 1) := by decide +kernel
theorem dX12_family_46 : decode cX12_family 46 = .ok (.ldc2_w 218, 3) := by decide +kernel
theorem dX12_family_49 : decode cX12_family 49 = .ok (.iconst 1, 1) := by decide +kernel
theorem dX12_family_50 : decode cX12_family 50 = .ok (.bipush 9, 2) := by decide +kernel
theorem dX12_family_52 : decode cX12_family 52 = .ok (.invokevirtual 176, 3) := by decide +kernel
theorem dX12_family_55 : decode cX12_family 55 = .ok (.invokevirtual 193, 3) := by decide +kernel
theorem dX12_family_58 : decode cX12_family 58 = .ok (.aload_n 0, 1) := by decide +kernel
theorem dX12_family_59 : decode cX12_family 59 = .ok (.iconst 1, 1) := by decide +kernel
theorem dX12_family_60 : decode cX12_family 60 = .ok (.aload_n 0, 1) := by decide +kernel
theorem dX12_family_61 : decode cX12_family 61 = .ok (.getfield 140, 3) := by decide +kernel
theorem dX12_family_64 : decode cX12_family 64 = .ok (.ifCond .ne 17, 3) := by decide +kernel
theorem dX12_family_67 : decode cX12_family 67 = .ok (.aload_n 0, 1) := by decide +kernel
theorem dX12_family_68 : decode cX12_family 68 = .ok (.ldc2_w 220, 3) := by decide +kernel
theorem dX12_family_71 : decode cX12_family 71 = .ok (.invokevirtual 153, 3) := by decide +kernel
theorem dX12_family_74 : decode cX12_family 74 = .ok (.ifCond .eq 7, 3) := by decide +kernel
theorem dX12_family_77 : decode cX12_family 77 = .ok (.iconst 1, 1) := by decide +kernel
theorem dX12_family_78 : decode cX12_family 78 = .ok (.goto 4, 3) := by decide +kernel
theorem dX12_family_81 : decode cX12_family 81 = .ok (.iconst 0, 1) := by decide +kernel
theorem dX12_family_82 : decode cX12_family 82 = .ok (.invokevirtual 193, 3) := by decide +kernel
theorem dX12_family_85 : decode cX12_family 85 = .ok (.goto 7, 3) := by decide +kernel
theorem dX12_family_88 : decode cX12_family 88 = .ok (.aload_n 0, 1) := by decide +kernel
theorem dX12_family_89 : decode cX12_family 89 = .ok (.invokevirtual 222, 3) := by decide +kernel
theorem dX12_family_92 : decode cX12_family 92 = .ok (.aload_n 0, 1) := by decide +kernel
theorem dX12_family_93 : decode cX12_family 93 = .ok (.invokevirtual 181, 3) := by decide +kernel
theorem dX12_family_96 : decode cX12_family 96 = .ok (.ifCond .eq 7, 3) := by decide +kernel
theorem dX12_family_99 : decode cX12_family 99 = .ok (.aload_n 0, 1) := by decide +kernel
theorem dX12_family_100 : decode cX12_family 100 = .ok (.invokevirtual 225, 3) := by decide +kernel
theorem dX12_family_103 : decode cX12_family 103 = .ok (.aload_n 0, 1) := by decide +kernel
theorem dX12_family_104 : decode cX12_family 104 = .ok (.getfield 31, 3) := by decide +kernel
theorem dX12_family_107 : decode cX12_family 107 = .ok (.iconst 4, 1) := by decide +kernel
theorem dX12_family_108 : decode cX12_family 108 = .ok (.dup2, 1) := by decide +kernel
theorem dX12_family_109 : decode cX12_family 109 = .ok (.iaload, 1) := by decide +kernel
theorem dX12_family_110 : decode cX12_family 110 = .ok (.iconst 1, 1) := by decide +kernel
theorem dX12_family_111 : decode cX12_family 111 = .ok (.iadd, 1) := by decide +kernel
theorem dX12_family_112 : decode cX12_family 112 = .ok (.iastore, 1) := by decide +kernel
theorem dX12_family_113 : decode cX12_family 113 = .ok (.goto (-100), 3) := by decide +kernel
theorem dX12_family_116 : decode cX12_family 116 = .ok (.aload_n 0, 1) := by decide +kernel
theorem dX12_family_117 : decode cX12_family 117 = .ok (.invokevirtual 228, 3) := by decide +kernel
theorem dX12_family_120 : decode cX12_family 120 = .ok (.aload_n 0, 1) := by decide +kernel
theorem dX12_family_121 : decode cX12_family 121 = .ok (.getfield 140, 3) := by decide +kernel
theorem dX12_family_124 : decode cX12_family 124 = .ok (.ifCond .eq 6, 3) := by decide +kernel
theorem dX12_family_127 : decode cX12_family 127 = .ok (.bipush (-4), 2) := by decide +kernel
theorem dX12_family_129 : decode cX12_family 129 = .ok (.ireturn, 1) := by decide +kernel
theorem dX12_family_130 : decode cX12_family 130 = .ok (.aload_n 0, 1) := by decide +kernel
theorem dX12_family_131 : decode cX12_family 131 = .ok (.iconst 4, 1) := by decide +kernel
theorem dX12_family_132 : decode cX12_family 132 = .ok (.iconst 0, 1) := by decide +kernel
theorem dX12_family_133 : decode cX12_family 133 = .ok (.invokevirtual 231, 3) := by decide +kernel
theorem dX12_family_136 : decode cX12_family 136 = .ok (.aload_n 0, 1) := by decide +kernel
theorem dX12_family_137 : decode cX12_family 137 = .ok (.getfield 31, 3) := by decide +kernel
theorem dX12_family_140 : decode cX12_family 140 = .ok (.iconst 0, 1) := by decide +kernel
theorem dX12_family_141 : decode cX12_family 141 = .ok (.iaload, 1) := by decide +kernel
theorem dX12_family_142 : decode cX12_family 142 = .ok (.ireturn, 1) := by decide +kernel
theorem dX12_copyRow_0 : decode cX12_copyRow 0 = .ok (.iconst 0, 1) := by decide +kernel
theorem dX12_copyRow_1 : decode cX12_copyRow 1 = .ok (.istore 4, 2) := by decide +kernel
theorem dX12_copyRow_3 : decode cX12_copyRow 3 = .ok (.iload 4, 2) := by decide +kernel
theorem dX12_copyRow_5 : decode cX12_copyRow 5 = .ok (.iload_n 1, 1) := by decide +kernel
theorem dX12_copyRow_6 : decode cX12_copyRow 6 = .ok (.if_icmp .ge 25, 3) := by decide +kernel
theorem dX12_copyRow_9 : decode cX12_copyRow 9 = .ok (.aload_n 0, 1) := by decide +kernel
theorem dX12_copyRow_10 : decode cX12_copyRow 10 = .ok (.iload_n 1, 1) := by decide +kernel
theorem dX12_copyRow_11 : decode cX12_copyRow 11 = .ok (.iload_n 3, 1) := by decide +kernel
theorem dX12_copyRow_12 : decode cX12_copyRow 12 = .ok (.imul, 1) := by decide +kernel
theorem dX12_copyRow_13 : decode cX12_copyRow 13 = .ok (.iload 4, 2) := by decide +kernel
theorem dX12_copyRow_15 : decode cX12_copyRow 15 = .ok (.iadd, 1) := by decide +kernel
theorem dX12_copyRow_16 : decode cX12_copyRow 16 = .ok (.aload_n 0, 1) := by decide +kernel
theorem dX12_copyRow_17 : decode cX12_copyRow 17 = .ok (.iload_n 1, 1) := by decide +kernel
theorem dX12_copyRow_18 : decode cX12_copyRow 18 = .ok (.iload_n 2, 1) := by decide +kernel
theorem dX12_copyRow_19 : decode cX12_copyRow 19 = .ok (.imul, 1) := by decide +kernel
theorem dX12_copyRow_20 : decode cX12_copyRow 20 = .ok (.iload 4, 2) := by decide +kernel
theorem dX12_copyRow_22 : decode cX12_copyRow 22 = .ok (.iadd, 1) := by decide +kernel
theorem dX12_copyRow_23 : decode cX12_copyRow 23 = .ok (.iaload, 1) := by decide +kernel
theorem dX12_copyRow_24 : decode cX12_copyRow 24 = .ok (.iastore, 1) := by decide +kernel
theorem dX12_copyRow_25 : decode cX12_copyRow 25 = .ok (.iinc 4 1, 3) := by decide +kernel
theorem dX12_copyRow_28 : decode cX12_copyRow 28 = .ok (.goto (-25), 3) := by decide +kernel
theorem dX12_copyRow_31 : decode cX12_copyRow 31 = .ok (.return_, 1) := by decide +kernel
theorem dX12_copyFamily_0 : decode cX12_copyFamily 0 = .ok (.aload_n 0, 1) := by decide +kernel
theorem dX12_copyFamily_1 : decode cX12_copyFamily 1 = .ok (.getfield 31, 3) := by decide +kernel
theorem dX12_copyFamily_4 : decode cX12_copyFamily 4 = .ok (.iconst 1, 1) := by decide +kernel
theorem dX12_copyFamily_5 : decode cX12_copyFamily 5 = .ok (.iload_n 1, 1) := by decide +kernel
theorem dX12_copyFamily_6 : decode cX12_copyFamily 6 = .ok (.iload_n 2, 1) := by decide +kernel
theorem dX12_copyFamily_7 : decode cX12_copyFamily 7 = .ok (.invokestatic 234, 3) := by decide +kernel
theorem dX12_copyFamily_10 : decode cX12_copyFamily 10 = .ok (.aload_n 0, 1) := by decide +kernel
theorem dX12_copyFamily_11 : decode cX12_copyFamily 11 = .ok (.getfield 34, 3) := by decide +kernel
theorem dX12_copyFamily_14 : decode cX12_copyFamily 14 = .ok (.bipush 7, 2) := by decide +kernel
theorem dX12_copyFamily_16 : decode cX12_copyFamily 16 = .ok (.iload_n 1, 1) := by decide +kernel
theorem dX12_copyFamily_17 : decode cX12_copyFamily 17 = .ok (.iload_n 2, 1) := by decide +kernel
theorem dX12_copyFamily_18 : decode cX12_copyFamily 18 = .ok (.invokestatic 234, 3) := by decide +kernel
theorem dX12_copyFamily_21 : decode cX12_copyFamily 21 = .ok (.aload_n 0, 1) := by decide +kernel
theorem dX12_copyFamily_22 : decode cX12_copyFamily 22 = .ok (.getfield 37, 3) := by decide +kernel
theorem dX12_copyFamily_25 : decode cX12_copyFamily 25 = .ok (.bipush 6, 2) := by decide +kernel
theorem dX12_copyFamily_27 : decode cX12_copyFamily 27 = .ok (.iload_n 1, 1) := by decide +kernel
theorem dX12_copyFamily_28 : decode cX12_copyFamily 28 = .ok (.iload_n 2, 1) := by decide +kernel
theorem dX12_copyFamily_29 : decode cX12_copyFamily 29 = .ok (.invokestatic 234, 3) := by decide +kernel
theorem dX12_copyFamily_32 : decode cX12_copyFamily 32 = .ok (.aload_n 0, 1) := by decide +kernel
theorem dX12_copyFamily_33 : decode cX12_copyFamily 33 = .ok (.getfield 40, 3) := by decide +kernel
theorem dX12_copyFamily_36 : decode cX12_copyFamily 36 = .ok (.bipush 6, 2) := by decide +kernel
theorem dX12_copyFamily_38 : decode cX12_copyFamily 38 = .ok (.iload_n 1, 1) := by decide +kernel
theorem dX12_copyFamily_39 : decode cX12_copyFamily 39 = .ok (.iload_n 2, 1) := by decide +kernel
theorem dX12_copyFamily_40 : decode cX12_copyFamily 40 = .ok (.invokestatic 234, 3) := by decide +kernel
theorem dX12_copyFamily_43 : decode cX12_copyFamily 43 = .ok (.aload_n 0, 1) := by decide +kernel
theorem dX12_copyFamily_44 : decode cX12_copyFamily 44 = .ok (.getfield 43, 3) := by decide +kernel
theorem dX12_copyFamily_47 : decode cX12_copyFamily 47 = .ok (.bipush 6, 2) := by decide +kernel
theorem dX12_copyFamily_49 : decode cX12_copyFamily 49 = .ok (.iload_n 1, 1) := by decide +kernel
theorem dX12_copyFamily_50 : decode cX12_copyFamily 50 = .ok (.iload_n 2, 1) := by decide +kernel
theorem dX12_copyFamily_51 : decode cX12_copyFamily 51 = .ok (.invokestatic 234, 3) := by decide +kernel
theorem dX12_copyFamily_54 : decode cX12_copyFamily 54 = .ok (.aload_n 0, 1) := by decide +kernel
theorem dX12_copyFamily_55 : decode cX12_copyFamily 55 = .ok (.getfield 46, 3) := by decide +kernel
theorem dX12_copyFamily_58 : decode cX12_copyFamily 58 = .ok (.bipush 40, 2) := by decide +kernel
theorem dX12_copyFamily_60 : decode cX12_copyFamily 60 = .ok (.iload_n 1, 1) := by decide +kernel
theorem dX12_copyFamily_61 : decode cX12_copyFamily 61 = .ok (.iload_n 2, 1) := by decide +kernel
theorem dX12_copyFamily_62 : decode cX12_copyFamily 62 = .ok (.invokestatic 234, 3) := by decide +kernel
theorem dX12_copyFamily_65 : decode cX12_copyFamily 65 = .ok (.return_, 1) := by decide +kernel
theorem dX12_isFamily_0 : decode cX12_isFamily 0 = .ok (.aload_n 0, 1) := by decide +kernel
theorem dX12_isFamily_1 : decode cX12_isFamily 1 = .ok (.getfield 31, 3) := by decide +kernel
theorem dX12_isFamily_4 : decode cX12_isFamily 4 = .ok (.iconst 0, 1) := by decide +kernel
theorem dX12_isFamily_5 : decode cX12_isFamily 5 = .ok (.iaload, 1) := by decide +kernel
theorem dX12_isFamily_6 : decode cX12_isFamily 6 = .ok (.ifCond .le 7, 3) := by decide +kernel
theorem dX12_isFamily_9 : decode cX12_isFamily 9 = .ok (.iconst 1, 1) := by decide +kernel
theorem dX12_isFamily_10 : decode cX12_isFamily 10 = .ok (.goto 4, 3) := by decide +kernel
theorem dX12_isFamily_13 : decode cX12_isFamily 13 = .ok (.iconst 0, 1) := by decide +kernel
theorem dX12_isFamily_14 : decode cX12_isFamily 14 = .ok (.ireturn, 1) := by decide +kernel
theorem dX12_isPerson_0 : decode cX12_isPerson 0 = .ok (.iload_n 1, 1) := by decide +kernel
theorem dX12_isPerson_1 : decode cX12_isPerson 1 = .ok (.i2l, 1) := by decide +kernel
theorem dX12_isPerson_2 : decode cX12_isPerson 2 = .ok (.lconst 0, 1) := by decide +kernel
theorem dX12_isPerson_3 : decode cX12_isPerson 3 = .ok (.aload_n 0, 1) := by decide +kernel
theorem dX12_isPerson_4 : decode cX12_isPerson 4 = .ok (.getfield 34, 3) := by decide +kernel
theorem dX12_isPerson_7 : decode cX12_isPerson 7 = .ok (.iconst 2, 1) := by decide +kernel
theorem dX12_isPerson_8 : decode cX12_isPerson 8 = .ok (.iaload, 1) := by decide +kernel
theorem dX12_isPerson_9 : decode cX12_isPerson 9 = .ok (.iconst 1, 1) := by decide +kernel
theorem dX12_isPerson_10 : decode cX12_isPerson 10 = .ok (.isub, 1) := by decide +kernel
theorem dX12_isPerson_11 : decode cX12_isPerson 11 = .ok (.i2l, 1) := by decide +kernel
theorem dX12_isPerson_12 : decode cX12_isPerson 12 = .ok (.invokestatic 93, 3) := by decide +kernel
theorem dX12_isPerson_15 : decode cX12_isPerson 15 = .ok (.ireturn, 1) := by decide +kernel
theorem dX12_isPost_0 : decode cX12_isPost 0 = .ok (.iload_n 1, 1) := by decide +kernel
theorem dX12_isPost_1 : decode cX12_isPost 1 = .ok (.i2l, 1) := by decide +kernel
theorem dX12_isPost_2 : decode cX12_isPost 2 = .ok (.lconst 0, 1) := by decide +kernel
theorem dX12_isPost_3 : decode cX12_isPost 3 = .ok (.aload_n 0, 1) := by decide +kernel
theorem dX12_isPost_4 : decode cX12_isPost 4 = .ok (.getfield 34, 3) := by decide +kernel
theorem dX12_isPost_7 : decode cX12_isPost 7 = .ok (.iconst 3, 1) := by decide +kernel
theorem dX12_isPost_8 : decode cX12_isPost 8 = .ok (.iaload, 1) := by decide +kernel
theorem dX12_isPost_9 : decode cX12_isPost 9 = .ok (.iconst 1, 1) := by decide +kernel
theorem dX12_isPost_10 : decode cX12_isPost 10 = .ok (.isub, 1) := by decide +kernel
theorem dX12_isPost_11 : decode cX12_isPost 11 = .ok (.i2l, 1) := by decide +kernel
theorem dX12_isPost_12 : decode cX12_isPost 12 = .ok (.invokestatic 93, 3) := by decide +kernel
theorem dX12_isPost_15 : decode cX12_isPost 15 = .ok (.ireturn, 1) := by decide +kernel
theorem dX12_isBit_0 : decode cX12_isBit 0 = .ok (.iload_n 0, 1) := by decide +kernel
theorem dX12_isBit_1 : decode cX12_isBit 1 = .ok (.iload_n 1, 1) := by decide +kernel
theorem dX12_isBit_2 : decode cX12_isBit 2 = .ok (.ishr, 1) := by decide +kernel
theorem dX12_isBit_3 : decode cX12_isBit 3 = .ok (.iconst 1, 1) := by decide +kernel
theorem dX12_isBit_4 : decode cX12_isBit 4 = .ok (.iand, 1) := by decide +kernel
theorem dX12_isBit_5 : decode cX12_isBit 5 = .ok (.iconst 1, 1) := by decide +kernel
theorem dX12_isBit_6 : decode cX12_isBit 6 = .ok (.if_icmp .ne 7, 3) := by decide +kernel
theorem dX12_isBit_9 : decode cX12_isBit 9 = .ok (.iconst 1, 1) := by decide +kernel
theorem dX12_isBit_10 : decode cX12_isBit 10 = .ok (.goto 4, 3) := by decide +kernel
theorem dX12_isBit_13 : decode cX12_isBit 13 = .ok (.iconst 0, 1) := by decide +kernel
theorem dX12_isBit_14 : decode cX12_isBit 14 = .ok (.ireturn, 1) := by decide +kernel
theorem dX12_sizeOf_0 : decode cX12_sizeOf 0 = .ok (.iconst 0, 1) := by decide +kernel
theorem dX12_sizeOf_1 : decode cX12_sizeOf 1 = .ok (.istore_n 1, 1) := by decide +kernel
theorem dX12_sizeOf_2 : decode cX12_sizeOf 2 = .ok (.iload_n 0, 1) := by decide +kernel
theorem dX12_sizeOf_3 : decode cX12_sizeOf 3 = .ok (.istore_n 2, 1) := by decide +kernel
theorem dX12_sizeOf_4 : decode cX12_sizeOf 4 = .ok (.iload_n 2, 1) := by decide +kernel
theorem dX12_sizeOf_5 : decode cX12_sizeOf 5 = .ok (.ifCond .eq 15, 3) := by decide +kernel
theorem dX12_sizeOf_8 : decode cX12_sizeOf 8 = .ok (.iinc 1 1, 3) := by decide +kernel
theorem dX12_sizeOf_11 : decode cX12_sizeOf 11 = .ok (.iload_n 2, 1) := by decide +kernel
theorem dX12_sizeOf_12 : decode cX12_sizeOf 12 = .ok (.iload_n 2, 1) := by decide +kernel
theorem dX12_sizeOf_13 : decode cX12_sizeOf 13 = .ok (.iconst 1, 1) := by decide +kernel
theorem dX12_sizeOf_14 : decode cX12_sizeOf 14 = .ok (.isub, 1) := by decide +kernel
theorem dX12_sizeOf_15 : decode cX12_sizeOf 15 = .ok (.iand, 1) := by decide +kernel
theorem dX12_sizeOf_16 : decode cX12_sizeOf 16 = .ok (.istore_n 2, 1) := by decide +kernel
theorem dX12_sizeOf_17 : decode cX12_sizeOf 17 = .ok (.goto (-13), 3) := by decide +kernel
theorem dX12_sizeOf_20 : decode cX12_sizeOf 20 = .ok (.iload_n 1, 1) := by decide +kernel
theorem dX12_sizeOf_21 : decode cX12_sizeOf 21 = .ok (.ireturn, 1) := by decide +kernel
theorem dX12_riskOf_0 : decode cX12_riskOf 0 = .ok (.bipush 100, 2) := by decide +kernel
theorem dX12_riskOf_2 : decode cX12_riskOf 2 = .ok (.aload_n 0, 1) := by decide +kernel
theorem dX12_riskOf_3 : decode cX12_riskOf 3 = .ok (.getfield 37, 3) := by decide +kernel
theorem dX12_riskOf_6 : decode cX12_riskOf 6 = .ok (.iload_n 1, 1) := by decide +kernel
theorem dX12_riskOf_7 : decode cX12_riskOf 7 = .ok (.iaload, 1) := by decide +kernel
theorem dX12_riskOf_8 : decode cX12_riskOf 8 = .ok (.isub, 1) := by decide +kernel
theorem dX12_riskOf_9 : decode cX12_riskOf 9 = .ok (.aload_n 0, 1) := by decide +kernel
theorem dX12_riskOf_10 : decode cX12_riskOf 10 = .ok (.getfield 43, 3) := by decide +kernel
theorem dX12_riskOf_13 : decode cX12_riskOf 13 = .ok (.iconst 3, 1) := by decide +kernel
theorem dX12_riskOf_14 : decode cX12_riskOf 14 = .ok (.iload_n 2, 1) := by decide +kernel
theorem dX12_riskOf_15 : decode cX12_riskOf 15 = .ok (.imul, 1) := by decide +kernel
theorem dX12_riskOf_16 : decode cX12_riskOf 16 = .ok (.iaload, 1) := by decide +kernel
theorem dX12_riskOf_17 : decode cX12_riskOf 17 = .ok (.imul, 1) := by decide +kernel
theorem dX12_riskOf_18 : decode cX12_riskOf 18 = .ok (.bipush 100, 2) := by decide +kernel
theorem dX12_riskOf_20 : decode cX12_riskOf 20 = .ok (.idiv, 1) := by decide +kernel
theorem dX12_riskOf_21 : decode cX12_riskOf 21 = .ok (.ireturn, 1) := by decide +kernel
theorem dX12_numberOf_0 : decode cX12_numberOf 0 = .ok (.aload_n 0, 1) := by decide +kernel
theorem dX12_numberOf_1 : decode cX12_numberOf 1 = .ok (.getfield 238, 3) := by decide +kernel
theorem dX12_numberOf_4 : decode cX12_numberOf 4 = .ok (.iconst 2, 1) := by decide +kernel
theorem dX12_numberOf_5 : decode cX12_numberOf 5 = .ok (.imul, 1) := by decide +kernel
theorem dX12_numberOf_6 : decode cX12_numberOf 6 = .ok (.aload_n 0, 1) := by decide +kernel
theorem dX12_numberOf_7 : decode cX12_numberOf 7 = .ok (.getfield 241, 3) := by decide +kernel
theorem dX12_numberOf_10 : decode cX12_numberOf 10 = .ok (.iadd, 1) := by decide +kernel
theorem dX12_numberOf_11 : decode cX12_numberOf 11 = .ok (.bipush 49, 2) := by decide +kernel
theorem dX12_numberOf_13 : decode cX12_numberOf 13 = .ok (.imul, 1) := by decide +kernel
theorem dX12_numberOf_14 : decode cX12_numberOf 14 = .ok (.aload_n 0, 1) := by decide +kernel
theorem dX12_numberOf_15 : decode cX12_numberOf 15 = .ok (.getfield 244, 3) := by decide +kernel
theorem dX12_numberOf_18 : decode cX12_numberOf 18 = .ok (.bipush 7, 2) := by decide +kernel
theorem dX12_numberOf_20 : decode cX12_numberOf 20 = .ok (.imul, 1) := by decide +kernel
theorem dX12_numberOf_21 : decode cX12_numberOf 21 = .ok (.iadd, 1) := by decide +kernel
theorem dX12_numberOf_22 : decode cX12_numberOf 22 = .ok (.aload_n 0, 1) := by decide +kernel
theorem dX12_numberOf_23 : decode cX12_numberOf 23 = .ok (.getfield 247, 3) := by decide +kernel
theorem dX12_numberOf_26 : decode cX12_numberOf 26 = .ok (.iadd, 1) := by decide +kernel
theorem dX12_numberOf_27 : decode cX12_numberOf 27 = .ok (.bipush 15, 2) := by decide +kernel
theorem dX12_numberOf_29 : decode cX12_numberOf 29 = .ok (.imul, 1) := by decide +kernel
theorem dX12_numberOf_30 : decode cX12_numberOf 30 = .ok (.aload_n 0, 1) := by decide +kernel
theorem dX12_numberOf_31 : decode cX12_numberOf 31 = .ok (.getfield 250, 3) := by decide +kernel
theorem dX12_numberOf_34 : decode cX12_numberOf 34 = .ok (.iadd, 1) := by decide +kernel
theorem dX12_numberOf_35 : decode cX12_numberOf 35 = .ok (.ireturn, 1) := by decide +kernel
theorem dX12_begin_0 : decode cX12_begin 0 = .ok (.aload_n 0, 1) := by decide +kernel
theorem dX12_begin_1 : decode cX12_begin 1 = .ok (.iload_n 1, 1) := by decide +kernel
theorem dX12_begin_2 : decode cX12_begin 2 = .ok (.bipush 15, 2) := by decide +kernel
theorem dX12_begin_4 : decode cX12_begin 4 = .ok (.irem, 1) := by decide +kernel
theorem dX12_begin_5 : decode cX12_begin 5 = .ok (.putfield 250, 3) := by decide +kernel
theorem dX12_begin_8 : decode cX12_begin 8 = .ok (.aload_n 0, 1) := by decide +kernel
theorem dX12_begin_9 : decode cX12_begin 9 = .ok (.iload_n 1, 1) := by decide +kernel
theorem dX12_begin_10 : decode cX12_begin 10 = .ok (.bipush 15, 2) := by decide +kernel
theorem dX12_begin_12 : decode cX12_begin 12 = .ok (.idiv, 1) := by decide +kernel
theorem dX12_begin_13 : decode cX12_begin 13 = .ok (.bipush 7, 2) := by decide +kernel
theorem dX12_begin_15 : decode cX12_begin 15 = .ok (.irem, 1) := by decide +kernel
theorem dX12_begin_16 : decode cX12_begin 16 = .ok (.putfield 247, 3) := by decide +kernel
theorem dX12_begin_19 : decode cX12_begin 19 = .ok (.aload_n 0, 1) := by decide +kernel
theorem dX12_begin_20 : decode cX12_begin 20 = .ok (.iload_n 1, 1) := by decide +kernel
theorem dX12_begin_21 : decode cX12_begin 21 = .ok (.bipush 105, 2) := by decide +kernel
theorem dX12_begin_23 : decode cX12_begin 23 = .ok (.idiv, 1) := by decide +kernel
theorem dX12_begin_24 : decode cX12_begin 24 = .ok (.bipush 7, 2) := by decide +kernel
theorem dX12_begin_26 : decode cX12_begin 26 = .ok (.irem, 1) := by decide +kernel
theorem dX12_begin_27 : decode cX12_begin 27 = .ok (.putfield 244, 3) := by decide +kernel
theorem dX12_begin_30 : decode cX12_begin 30 = .ok (.aload_n 0, 1) := by decide +kernel
theorem dX12_begin_31 : decode cX12_begin 31 = .ok (.iload_n 1, 1) := by decide +kernel
theorem dX12_begin_32 : decode cX12_begin 32 = .ok (.sipush 735, 3) := by decide +kernel
theorem dX12_begin_35 : decode cX12_begin 35 = .ok (.idiv, 1) := by decide +kernel
theorem dX12_begin_36 : decode cX12_begin 36 = .ok (.iconst 2, 1) := by decide +kernel
theorem dX12_begin_37 : decode cX12_begin 37 = .ok (.irem, 1) := by decide +kernel
theorem dX12_begin_38 : decode cX12_begin 38 = .ok (.putfield 241, 3) := by decide +kernel
theorem dX12_begin_41 : decode cX12_begin 41 = .ok (.aload_n 0, 1) := by decide +kernel
theorem dX12_begin_42 : decode cX12_begin 42 = .ok (.iload_n 1, 1) := by decide +kernel
theorem dX12_begin_43 : decode cX12_begin 43 = .ok (.sipush 1470, 3) := by decide +kernel
theorem dX12_begin_46 : decode cX12_begin 46 = .ok (.idiv, 1) := by decide +kernel
theorem dX12_begin_47 : decode cX12_begin 47 = .ok (.putfield 238, 3) := by decide +kernel
theorem dX12_begin_50 : decode cX12_begin 50 = .ok (.return_, 1) := by decide +kernel
theorem dX12_noses_0 : decode cX12_noses 0 = .ok (.iload_n 2, 1) := by decide +kernel
theorem dX12_noses_1 : decode cX12_noses 1 = .ok (.ifCond .eq 10, 3) := by decide +kernel
theorem dX12_noses_4 : decode cX12_noses 4 = .ok (.iload_n 2, 1) := by decide +kernel
theorem dX12_noses_5 : decode cX12_noses 5 = .ok (.iload_n 1, 1) := by decide +kernel
theorem dX12_noses_6 : decode cX12_noses 6 = .ok (.iconst 1, 1) := by decide +kernel
theorem dX12_noses_7 : decode cX12_noses 7 = .ok (.iadd, 1) := by decide +kernel
theorem dX12_noses_8 : decode cX12_noses 8 = .ok (.if_icmp .ne 5, 3) := by decide +kernel
theorem dX12_noses_11 : decode cX12_noses 11 = .ok (.iconst 1, 1) := by decide +kernel
theorem dX12_noses_12 : decode cX12_noses 12 = .ok (.ireturn, 1) := by decide +kernel
theorem dX12_noses_13 : decode cX12_noses 13 = .ok (.aload_n 0, 1) := by decide +kernel
theorem dX12_noses_14 : decode cX12_noses 14 = .ok (.getfield 40, 3) := by decide +kernel
theorem dX12_noses_17 : decode cX12_noses 17 = .ok (.iload_n 1, 1) := by decide +kernel
theorem dX12_noses_18 : decode cX12_noses 18 = .ok (.iaload, 1) := by decide +kernel
theorem dX12_noses_19 : decode cX12_noses 19 = .ok (.aload_n 0, 1) := by decide +kernel
theorem dX12_noses_20 : decode cX12_noses 20 = .ok (.getfield 40, 3) := by decide +kernel
theorem dX12_noses_23 : decode cX12_noses 23 = .ok (.iload_n 2, 1) := by decide +kernel
theorem dX12_noses_24 : decode cX12_noses 24 = .ok (.iconst 1, 1) := by decide +kernel
theorem dX12_noses_25 : decode cX12_noses 25 = .ok (.isub, 1) := by decide +kernel
theorem dX12_noses_26 : decode cX12_noses 26 = .ok (.iaload, 1) := by decide +kernel
theorem dX12_noses_27 : decode cX12_noses 27 = .ok (.isub, 1) := by decide +kernel
theorem dX12_noses_28 : decode cX12_noses 28 = .ok (.istore 4, 2) := by decide +kernel
theorem dX12_noses_30 : decode cX12_noses 30 = .ok (.iload 4, 2) := by decide +kernel
theorem dX12_noses_32 : decode cX12_noses 32 = .ok (.aload_n 0, 1) := by decide +kernel
theorem dX12_noses_33 : decode cX12_noses 33 = .ok (.getfield 43, 3) := by decide +kernel
theorem dX12_noses_36 : decode cX12_noses 36 = .ok (.iconst 3, 1) := by decide +kernel
theorem dX12_noses_37 : decode cX12_noses 37 = .ok (.iload_n 3, 1) := by decide +kernel
theorem dX12_noses_38 : decode cX12_noses 38 = .ok (.imul, 1) := by decide +kernel
theorem dX12_noses_39 : decode cX12_noses 39 = .ok (.iconst 1, 1) := by decide +kernel
theorem dX12_noses_40 : decode cX12_noses 40 = .ok (.iadd, 1) := by decide +kernel
theorem dX12_noses_41 : decode cX12_noses 41 = .ok (.iaload, 1) := by decide +kernel
theorem dX12_noses_42 : decode cX12_noses 42 = .ok (.if_icmp .gt 23, 3) := by decide +kernel
theorem dX12_noses_45 : decode cX12_noses 45 = .ok (.iload 4, 2) := by decide +kernel
theorem dX12_noses_47 : decode cX12_noses 47 = .ok (.ineg, 1) := by decide +kernel
theorem dX12_noses_48 : decode cX12_noses 48 = .ok (.aload_n 0, 1) := by decide +kernel
theorem dX12_noses_49 : decode cX12_noses 49 = .ok (.getfield 43, 3) := by decide +kernel
theorem dX12_noses_52 : decode cX12_noses 52 = .ok (.iconst 3, 1) := by decide +kernel
theorem dX12_noses_53 : decode cX12_noses 53 = .ok (.iload_n 3, 1) := by decide +kernel
theorem dX12_noses_54 : decode cX12_noses 54 = .ok (.imul, 1) := by decide +kernel
theorem dX12_noses_55 : decode cX12_noses 55 = .ok (.iconst 1, 1) := by decide +kernel
theorem dX12_noses_56 : decode cX12_noses 56 = .ok (.iadd, 1) := by decide +kernel
theorem dX12_noses_57 : decode cX12_noses 57 = .ok (.iaload, 1) := by decide +kernel
theorem dX12_noses_58 : decode cX12_noses 58 = .ok (.if_icmp .gt 7, 3) := by decide +kernel
theorem dX12_noses_61 : decode cX12_noses 61 = .ok (.iconst 1, 1) := by decide +kernel
theorem dX12_noses_62 : decode cX12_noses 62 = .ok (.goto 4, 3) := by decide +kernel
theorem dX12_noses_65 : decode cX12_noses 65 = .ok (.iconst 0, 1) := by decide +kernel
theorem dX12_noses_66 : decode cX12_noses 66 = .ok (.ireturn, 1) := by decide +kernel
theorem dX12_stamps_0 : decode cX12_stamps 0 = .ok (.aload_n 0, 1) := by decide +kernel
theorem dX12_stamps_1 : decode cX12_stamps 1 = .ok (.getfield 250, 3) := by decide +kernel
theorem dX12_stamps_4 : decode cX12_stamps 4 = .ok (.ifCond .ne 7, 3) := by decide +kernel
theorem dX12_stamps_7 : decode cX12_stamps 7 = .ok (.iconst 0, 1) := by decide +kernel
theorem dX12_stamps_8 : decode cX12_stamps 8 = .ok (.goto 29, 3) := by decide +kernel
theorem dX12_stamps_11 : decode cX12_stamps 11 = .ok (.aload_n 0, 1) := by decide +kernel
theorem dX12_stamps_12 : decode cX12_stamps 12 = .ok (.getfield 250, 3) := by decide +kernel
theorem dX12_stamps_15 : decode cX12_stamps 15 = .ok (.iconst 3, 1) := by decide +kernel
theorem dX12_stamps_16 : decode cX12_stamps 16 = .ok (.if_icmp .ge 7, 3) := by decide +kernel
theorem dX12_stamps_19 : decode cX12_stamps 19 = .ok (.iconst 1, 1) := by decide +kernel
theorem dX12_stamps_20 : decode cX12_stamps 20 = .ok (.goto 17, 3) := by decide +kernel
theorem dX12_stamps_23 : decode cX12_stamps 23 = .ok (.aload_n 0, 1) := by decide +kernel
theorem dX12_stamps_24 : decode cX12_stamps 24 = .ok (.getfield 250, 3) := by decide +kernel
theorem dX12_stamps_27 : decode cX12_stamps 27 = .ok (.bipush 7, 2) := by decide +kernel
theorem dX12_stamps_29 : decode cX12_stamps 29 = .ok (.if_icmp .ge 7, 3) := by decide +kernel
theorem dX12_stamps_32 : decode cX12_stamps 32 = .ok (.iconst 2, 1) := by decide +kernel
theorem dX12_stamps_33 : decode cX12_stamps 33 = .ok (.goto 4, 3) := by decide +kernel
theorem dX12_stamps_36 : decode cX12_stamps 36 = .ok (.iconst 3, 1) := by decide +kernel
theorem dX12_stamps_37 : decode cX12_stamps 37 = .ok (.istore_n 3, 1) := by decide +kernel
theorem dX12_stamps_38 : decode cX12_stamps 38 = .ok (.aload_n 0, 1) := by decide +kernel
theorem dX12_stamps_39 : decode cX12_stamps 39 = .ok (.getfield 250, 3) := by decide +kernel
theorem dX12_stamps_42 : decode cX12_stamps 42 = .ok (.iconst 1, 1) := by decide +kernel
theorem dX12_stamps_43 : decode cX12_stamps 43 = .ok (.iload_n 3, 1) := by decide +kernel
theorem dX12_stamps_44 : decode cX12_stamps 44 = .ok (.ishl, 1) := by decide +kernel
theorem dX12_stamps_45 : decode cX12_stamps 45 = .ok (.isub, 1) := by decide +kernel
theorem dX12_stamps_46 : decode cX12_stamps 46 = .ok (.iconst 1, 1) := by decide +kernel
theorem dX12_stamps_47 : decode cX12_stamps 47 = .ok (.iadd, 1) := by decide +kernel
theorem dX12_stamps_48 : decode cX12_stamps 48 = .ok (.istore 4, 2) := by decide +kernel
theorem dX12_stamps_50 : decode cX12_stamps 50 = .ok (.iload_n 2, 1) := by decide +kernel
theorem dX12_stamps_51 : decode cX12_stamps 51 = .ok (.istore 5, 2) := by decide +kernel
theorem dX12_stamps_53 : decode cX12_stamps 53 = .ok (.iconst 0, 1) := by decide +kernel
theorem dX12_stamps_54 : decode cX12_stamps 54 = .ok (.istore 6, 2) := by decide +kernel
theorem dX12_stamps_56 : decode cX12_stamps 56 = .ok (.iload 6, 2) := by decide +kernel
theorem dX12_stamps_58 : decode cX12_stamps 58 = .ok (.aload_n 0, 1) := by decide +kernel
theorem dX12_stamps_59 : decode cX12_stamps 59 = .ok (.getfield 43, 3) := by decide +kernel
theorem dX12_stamps_62 : decode cX12_stamps 62 = .ok (.iconst 3, 1) := by decide +kernel
theorem dX12_stamps_63 : decode cX12_stamps 63 = .ok (.iload_n 1, 1) := by decide +kernel
theorem dX12_stamps_64 : decode cX12_stamps 64 = .ok (.imul, 1) := by decide +kernel
theorem dX12_stamps_65 : decode cX12_stamps 65 = .ok (.iconst 2, 1) := by decide +kernel
theorem dX12_stamps_66 : decode cX12_stamps 66 = .ok (.iadd, 1) := by decide +kernel
theorem dX12_stamps_67 : decode cX12_stamps 67 = .ok (.iaload, 1) := by decide +kernel
theorem dX12_stamps_68 : decode cX12_stamps 68 = .ok (.if_icmp .ge 38, 3) := by decide +kernel
theorem dX12_stamps_71 : decode cX12_stamps 71 = .ok (.iload 6, 2) := by decide +kernel
theorem dX12_stamps_73 : decode cX12_stamps 73 = .ok (.iload_n 3, 1) := by decide +kernel
theorem dX12_stamps_74 : decode cX12_stamps 74 = .ok (.if_icmp .ge 32, 3) := by decide +kernel
theorem dX12_stamps_77 : decode cX12_stamps 77 = .ok (.iload 4, 2) := by decide +kernel
theorem dX12_stamps_79 : decode cX12_stamps 79 = .ok (.iload 6, 2) := by decide +kernel
theorem dX12_stamps_81 : decode cX12_stamps 81 = .ok (.ishr, 1) := by decide +kernel
theorem dX12_stamps_82 : decode cX12_stamps 82 = .ok (.iconst 1, 1) := by decide +kernel
theorem dX12_stamps_83 : decode cX12_stamps 83 = .ok (.iand, 1) := by decide +kernel
theorem dX12_stamps_84 : decode cX12_stamps 84 = .ok (.iload 5, 2) := by decide +kernel
theorem dX12_stamps_86 : decode cX12_stamps 86 = .ok (.if_icmp .ne 5, 3) := by decide +kernel
theorem dX12_stamps_89 : decode cX12_stamps 89 = .ok (.iconst 0, 1) := by decide +kernel
theorem dX12_stamps_90 : decode cX12_stamps 90 = .ok (.ireturn, 1) := by decide +kernel
theorem dX12_stamps_91 : decode cX12_stamps 91 = .ok (.iload 4, 2) := by decide +kernel
theorem dX12_stamps_93 : decode cX12_stamps 93 = .ok (.iload 6, 2) := by decide +kernel
theorem dX12_stamps_95 : decode cX12_stamps 95 = .ok (.ishr, 1) := by decide +kernel
theorem dX12_stamps_96 : decode cX12_stamps 96 = .ok (.iconst 1, 1) := by decide +kernel
theorem dX12_stamps_97 : decode cX12_stamps 97 = .ok (.iand, 1) := by decide +kernel
theorem dX12_stamps_98 : decode cX12_stamps 98 = .ok (.istore 5, 2) := by decide +kernel
theorem dX12_stamps_100 : decode cX12_stamps 100 = .ok (.iinc 6 1, 3) := by decide +kernel
theorem dX12_stamps_103 : decode cX12_stamps 103 = .ok (.goto (-47), 3) := by decide +kernel
theorem dX12_stamps_106 : decode cX12_stamps 106 = .ok (.iconst 1, 1) := by decide +kernel
theorem dX12_stamps_107 : decode cX12_stamps 107 = .ok (.ireturn, 1) := by decide +kernel
theorem dX12_sideOf_0 : decode cX12_sideOf 0 = .ok (.aload_n 0, 1) := by decide +kernel
theorem dX12_sideOf_1 : decode cX12_sideOf 1 = .ok (.getfield 238, 3) := by decide +kernel
theorem dX12_sideOf_4 : decode cX12_sideOf 4 = .ok (.iload_n 1, 1) := by decide +kernel
theorem dX12_sideOf_5 : decode cX12_sideOf 5 = .ok (.ishr, 1) := by decide +kernel
theorem dX12_sideOf_6 : decode cX12_sideOf 6 = .ok (.iconst 1, 1) := by decide +kernel
theorem dX12_sideOf_7 : decode cX12_sideOf 7 = .ok (.iand, 1) := by decide +kernel
theorem dX12_sideOf_8 : decode cX12_sideOf 8 = .ok (.ireturn, 1) := by decide +kernel
theorem dX12_whyElse_0 : decode cX12_whyElse 0 = .ok (.aload_n 0, 1) := by decide +kernel
theorem dX12_whyElse_1 : decode cX12_whyElse 1 = .ok (.getfield 34, 3) := by decide +kernel
theorem dX12_whyElse_4 : decode cX12_whyElse 4 = .ok (.iconst 4, 1) := by decide +kernel
theorem dX12_whyElse_5 : decode cX12_whyElse 5 = .ok (.iaload, 1) := by decide +kernel
theorem dX12_whyElse_6 : decode cX12_whyElse 6 = .ok (.iload_n 1, 1) := by decide +kernel
theorem dX12_whyElse_7 : decode cX12_whyElse 7 = .ok (.invokestatic 189, 3) := by decide +kernel
theorem dX12_whyElse_10 : decode cX12_whyElse 10 = .ok (.ifCond .eq 5, 3) := by decide +kernel
theorem dX12_whyElse_13 : decode cX12_whyElse 13 = .ok (.iconst 2, 1) := by decide +kernel
theorem dX12_whyElse_14 : decode cX12_whyElse 14 = .ok (.ireturn, 1) := by decide +kernel
theorem dX12_whyElse_15 : decode cX12_whyElse 15 = .ok (.iload_n 2, 1) := by decide +kernel
theorem dX12_whyElse_16 : decode cX12_whyElse 16 = .ok (.iconst (-1), 1) := by decide +kernel
theorem dX12_whyElse_17 : decode cX12_whyElse 17 = .ok (.if_icmp .eq 28, 3) := by decide +kernel
theorem dX12_whyElse_20 : decode cX12_whyElse 20 = .ok (.aload_n 0, 1) := by decide +kernel
theorem dX12_whyElse_21 : decode cX12_whyElse 21 = .ok (.getfield 34, 3) := by decide +kernel
theorem dX12_whyElse_24 : decode cX12_whyElse 24 = .ok (.iconst 4, 1) := by decide +kernel
theorem dX12_whyElse_25 : decode cX12_whyElse 25 = .ok (.iaload, 1) := by decide +kernel
theorem dX12_whyElse_26 : decode cX12_whyElse 26 = .ok (.iload_n 2, 1) := by decide +kernel
theorem dX12_whyElse_27 : decode cX12_whyElse 27 = .ok (.invokestatic 189, 3) := by decide +kernel
theorem dX12_whyElse_30 : decode cX12_whyElse 30 = .ok (.ifCond .eq 13, 3) := by decide +kernel
theorem dX12_whyElse_33 : decode cX12_whyElse 33 = .ok (.aload_n 0, 1) := by decide +kernel
theorem dX12_whyElse_34 : decode cX12_whyElse 34 = .ok (.iload_n 2, 1) := by decide +kernel
theorem dX12_whyElse_35 : decode cX12_whyElse 35 = .ok (.invokevirtual 253, 3) := by decide +kernel
theorem dX12_whyElse_38 : decode cX12_whyElse 38 = .ok (.iload 4, 2) := by decide +kernel
theorem dX12_whyElse_40 : decode cX12_whyElse 40 = .ok (.if_icmp .eq 5, 3) := by decide +kernel
theorem dX12_whyElse_43 : decode cX12_whyElse 43 = .ok (.iconst 3, 1) := by decide +kernel
theorem dX12_whyElse_44 : decode cX12_whyElse 44 = .ok (.ireturn, 1) := by decide +kernel
theorem dX12_whyElse_45 : decode cX12_whyElse 45 = .ok (.aload_n 0, 1) := by decide +kernel
theorem dX12_whyElse_46 : decode cX12_whyElse 46 = .ok (.iload_n 1, 1) := by decide +kernel
theorem dX12_whyElse_47 : decode cX12_whyElse 47 = .ok (.iload_n 3, 1) := by decide +kernel
theorem dX12_whyElse_48 : decode cX12_whyElse 48 = .ok (.ifCond .ne 10, 3) := by decide +kernel
theorem dX12_whyElse_51 : decode cX12_whyElse 51 = .ok (.aload_n 0, 1) := by decide +kernel
theorem dX12_whyElse_52 : decode cX12_whyElse 52 = .ok (.getfield 244, 3) := by decide +kernel
theorem dX12_whyElse_55 : decode cX12_whyElse 55 = .ok (.goto 7, 3) := by decide +kernel
theorem dX12_whyElse_58 : decode cX12_whyElse 58 = .ok (.aload_n 0, 1) := by decide +kernel
theorem dX12_whyElse_59 : decode cX12_whyElse 59 = .ok (.getfield 247, 3) := by decide +kernel
theorem dX12_whyElse_62 : decode cX12_whyElse 62 = .ok (.iload_n 3, 1) := by decide +kernel
theorem dX12_whyElse_63 : decode cX12_whyElse 63 = .ok (.invokevirtual 256, 3) := by decide +kernel
theorem dX12_whyElse_66 : decode cX12_whyElse 66 = .ok (.ifCond .ne 5, 3) := by decide +kernel
theorem dX12_whyElse_69 : decode cX12_whyElse 69 = .ok (.iconst 4, 1) := by decide +kernel
theorem dX12_whyElse_70 : decode cX12_whyElse 70 = .ok (.ireturn, 1) := by decide +kernel
theorem dX12_whyElse_71 : decode cX12_whyElse 71 = .ok (.aload_n 0, 1) := by decide +kernel
theorem dX12_whyElse_72 : decode cX12_whyElse 72 = .ok (.iload_n 3, 1) := by decide +kernel
theorem dX12_whyElse_73 : decode cX12_whyElse 73 = .ok (.iload 4, 2) := by decide +kernel
theorem dX12_whyElse_75 : decode cX12_whyElse 75 = .ok (.invokevirtual 259, 3) := by decide +kernel
theorem dX12_whyElse_78 : decode cX12_whyElse 78 = .ok (.ifCond .eq 7, 3) := by decide +kernel
theorem dX12_whyElse_81 : decode cX12_whyElse 81 = .ok (.iconst 0, 1) := by decide +kernel
theorem dX12_whyElse_82 : decode cX12_whyElse 82 = .ok (.goto 4, 3) := by decide +kernel
theorem dX12_whyElse_85 : decode cX12_whyElse 85 = .ok (.iconst 5, 1) := by decide +kernel
theorem dX12_whyElse_86 : decode cX12_whyElse 86 = .ok (.ireturn, 1) := by decide +kernel
theorem dX12_whyOf_0 : decode cX12_whyOf 0 = .ok (.aload_n 0, 1) := by decide +kernel
theorem dX12_whyOf_1 : decode cX12_whyOf 1 = .ok (.iload_n 1, 1) := by decide +kernel
theorem dX12_whyOf_2 : decode cX12_whyOf 2 = .ok (.invokevirtual 253, 3) := by decide +kernel
theorem dX12_whyOf_5 : decode cX12_whyOf 5 = .ok (.aload_n 0, 1) := by decide +kernel
theorem dX12_whyOf_6 : decode cX12_whyOf 6 = .ok (.getfield 241, 3) := by decide +kernel
theorem dX12_whyOf_9 : decode cX12_whyOf 9 = .ok (.if_icmp .eq 7, 3) := by decide +kernel
theorem dX12_whyOf_12 : decode cX12_whyOf 12 = .ok (.iconst 1, 1) := by decide +kernel
theorem dX12_whyOf_13 : decode cX12_whyOf 13 = .ok (.goto 14, 3) := by decide +kernel
theorem dX12_whyOf_16 : decode cX12_whyOf 16 = .ok (.aload_n 0, 1) := by decide +kernel
theorem dX12_whyOf_17 : decode cX12_whyOf 17 = .ok (.iload_n 1, 1) := by decide +kernel
theorem dX12_whyOf_18 : decode cX12_whyOf 18 = .ok (.iload_n 2, 1) := by decide +kernel
theorem dX12_whyOf_19 : decode cX12_whyOf 19 = .ok (.iload_n 3, 1) := by decide +kernel
theorem dX12_whyOf_20 : decode cX12_whyOf 20 = .ok (.aload_n 0, 1) := by decide +kernel
theorem dX12_whyOf_21 : decode cX12_whyOf 21 = .ok (.getfield 241, 3) := by decide +kernel
theorem dX12_whyOf_24 : decode cX12_whyOf 24 = .ok (.invokevirtual 262, 3) := by decide +kernel
theorem dX12_whyOf_27 : decode cX12_whyOf 27 = .ok (.ireturn, 1) := by decide +kernel
theorem dX12_marks_0 : decode cX12_marks 0 = .ok (.aload_n 0, 1) := by decide +kernel
theorem dX12_marks_1 : decode cX12_marks 1 = .ok (.getfield 250, 3) := by decide +kernel
theorem dX12_marks_4 : decode cX12_marks 4 = .ok (.ifCond .ne 7, 3) := by decide +kernel
theorem dX12_marks_7 : decode cX12_marks 7 = .ok (.iconst 0, 1) := by decide +kernel
theorem dX12_marks_8 : decode cX12_marks 8 = .ok (.goto 29, 3) := by decide +kernel
theorem dX12_marks_11 : decode cX12_marks 11 = .ok (.aload_n 0, 1) := by decide +kernel
theorem dX12_marks_12 : decode cX12_marks 12 = .ok (.getfield 250, 3) := by decide +kernel
theorem dX12_marks_15 : decode cX12_marks 15 = .ok (.iconst 3, 1) := by decide +kernel
theorem dX12_marks_16 : decode cX12_marks 16 = .ok (.if_icmp .ge 7, 3) := by decide +kernel
theorem dX12_marks_19 : decode cX12_marks 19 = .ok (.iconst 1, 1) := by decide +kernel
theorem dX12_marks_20 : decode cX12_marks 20 = .ok (.goto 17, 3) := by decide +kernel
theorem dX12_marks_23 : decode cX12_marks 23 = .ok (.aload_n 0, 1) := by decide +kernel
theorem dX12_marks_24 : decode cX12_marks 24 = .ok (.getfield 250, 3) := by decide +kernel
theorem dX12_marks_27 : decode cX12_marks 27 = .ok (.bipush 7, 2) := by decide +kernel
theorem dX12_marks_29 : decode cX12_marks 29 = .ok (.if_icmp .ge 7, 3) := by decide +kernel
theorem dX12_marks_32 : decode cX12_marks 32 = .ok (.iconst 2, 1) := by decide +kernel
theorem dX12_marks_33 : decode cX12_marks 33 = .ok (.goto 4, 3) := by decide +kernel
theorem dX12_marks_36 : decode cX12_marks 36 = .ok (.iconst 3, 1) := by decide +kernel
theorem dX12_marks_37 : decode cX12_marks 37 = .ok (.istore_n 2, 1) := by decide +kernel
theorem dX12_marks_38 : decode cX12_marks 38 = .ok (.aload_n 0, 1) := by decide +kernel
theorem dX12_marks_39 : decode cX12_marks 39 = .ok (.getfield 250, 3) := by decide +kernel
theorem dX12_marks_42 : decode cX12_marks 42 = .ok (.iconst 1, 1) := by decide +kernel
theorem dX12_marks_43 : decode cX12_marks 43 = .ok (.iload_n 2, 1) := by decide +kernel
theorem dX12_marks_44 : decode cX12_marks 44 = .ok (.ishl, 1) := by decide +kernel
theorem dX12_marks_45 : decode cX12_marks 45 = .ok (.isub, 1) := by decide +kernel
theorem dX12_marks_46 : decode cX12_marks 46 = .ok (.iconst 1, 1) := by decide +kernel
theorem dX12_marks_47 : decode cX12_marks 47 = .ok (.iadd, 1) := by decide +kernel
theorem dX12_marks_48 : decode cX12_marks 48 = .ok (.istore_n 3, 1) := by decide +kernel
theorem dX12_marks_49 : decode cX12_marks 49 = .ok (.iload_n 2, 1) := by decide +kernel
theorem dX12_marks_50 : decode cX12_marks 50 = .ok (.iconst 3, 1) := by decide +kernel
theorem dX12_marks_51 : decode cX12_marks 51 = .ok (.if_icmp .ge 9, 3) := by decide +kernel
theorem dX12_marks_54 : decode cX12_marks 54 = .ok (.iload_n 2, 1) := by decide +kernel
theorem dX12_marks_55 : decode cX12_marks 55 = .ok (.iconst 1, 1) := by decide +kernel
theorem dX12_marks_56 : decode cX12_marks 56 = .ok (.iadd, 1) := by decide +kernel
theorem dX12_marks_57 : decode cX12_marks 57 = .ok (.goto 4, 3) := by decide +kernel
theorem dX12_marks_60 : decode cX12_marks 60 = .ok (.iconst 3, 1) := by decide +kernel
theorem dX12_marks_61 : decode cX12_marks 61 = .ok (.istore 4, 2) := by decide +kernel
theorem dX12_marks_63 : decode cX12_marks 63 = .ok (.aload_n 0, 1) := by decide +kernel
theorem dX12_marks_64 : decode cX12_marks 64 = .ok (.iconst 1, 1) := by decide +kernel
theorem dX12_marks_65 : decode cX12_marks 65 = .ok (.iload 4, 2) := by decide +kernel
theorem dX12_marks_67 : decode cX12_marks 67 = .ok (.ishl, 1) := by decide +kernel
theorem dX12_marks_68 : decode cX12_marks 68 = .ok (.iconst 1, 1) := by decide +kernel
theorem dX12_marks_69 : decode cX12_marks 69 = .ok (.isub, 1) := by decide +kernel
theorem dX12_marks_70 : decode cX12_marks 70 = .ok (.iload_n 3, 1) := by decide +kernel
theorem dX12_marks_71 : decode cX12_marks 71 = .ok (.iconst 1, 1) := by decide +kernel
theorem dX12_marks_72 : decode cX12_marks 72 = .ok (.ishl, 1) := by decide +kernel
theorem dX12_marks_73 : decode cX12_marks 73 = .ok (.iload_n 1, 1) := by decide +kernel
theorem dX12_marks_74 : decode cX12_marks 74 = .ok (.ior, 1) := by decide +kernel
theorem dX12_marks_75 : decode cX12_marks 75 = .ok (.iconst 1, 1) := by decide +kernel
theorem dX12_marks_76 : decode cX12_marks 76 = .ok (.iload 4, 2) := by decide +kernel
theorem dX12_marks_78 : decode cX12_marks 78 = .ok (.ishl, 1) := by decide +kernel
theorem dX12_marks_79 : decode cX12_marks 79 = .ok (.iconst 1, 1) := by decide +kernel
theorem dX12_marks_80 : decode cX12_marks 80 = .ok (.isub, 1) := by decide +kernel
theorem dX12_marks_81 : decode cX12_marks 81 = .ok (.iand, 1) := by decide +kernel
theorem dX12_marks_82 : decode cX12_marks 82 = .ok (.iadd, 1) := by decide +kernel
theorem dX12_marks_83 : decode cX12_marks 83 = .ok (.putfield 250, 3) := by decide +kernel
theorem dX12_marks_86 : decode cX12_marks 86 = .ok (.return_, 1) := by decide +kernel
theorem dX12_crosses_0 : decode cX12_crosses 0 = .ok (.aload_n 0, 1) := by decide +kernel
theorem dX12_crosses_1 : decode cX12_crosses 1 = .ok (.iload_n 1, 1) := by decide +kernel
theorem dX12_crosses_2 : decode cX12_crosses 2 = .ok (.invokevirtual 253, 3) := by decide +kernel
theorem dX12_crosses_5 : decode cX12_crosses 5 = .ok (.istore 4, 2) := by decide +kernel
theorem dX12_crosses_7 : decode cX12_crosses 7 = .ok (.aload_n 0, 1) := by decide +kernel
theorem dX12_crosses_8 : decode cX12_crosses 8 = .ok (.dup, 1) := by decide +kernel
theorem dX12_crosses_9 : decode cX12_crosses 9 = .ok (.getfield 238, 3) := by decide +kernel
theorem dX12_crosses_12 : decode cX12_crosses 12 = .ok (.iconst 1, 1) := by decide +kernel
theorem dX12_crosses_13 : decode cX12_crosses 13 = .ok (.iload_n 1, 1) := by decide +kernel
theorem dX12_crosses_14 : decode cX12_crosses 14 = .ok (.ishl, 1) := by decide +kernel
theorem dX12_crosses_15 : decode cX12_crosses 15 = .ok (.ixor, 1) := by decide +kernel
theorem dX12_crosses_16 : decode cX12_crosses 16 = .ok (.putfield 238, 3) := by decide +kernel
theorem dX12_crosses_19 : decode cX12_crosses 19 = .ok (.iload_n 2, 1) := by decide +kernel
theorem dX12_crosses_20 : decode cX12_crosses 20 = .ok (.iconst (-1), 1) := by decide +kernel
theorem dX12_crosses_21 : decode cX12_crosses 21 = .ok (.if_icmp .eq 15, 3) := by decide +kernel
theorem dX12_crosses_24 : decode cX12_crosses 24 = .ok (.aload_n 0, 1) := by decide +kernel
theorem dX12_crosses_25 : decode cX12_crosses 25 = .ok (.dup, 1) := by decide +kernel
theorem dX12_crosses_26 : decode cX12_crosses 26 = .ok (.getfield 238, 3) := by decide +kernel
theorem dX12_crosses_29 : decode cX12_crosses 29 = .ok (.iconst 1, 1) := by decide +kernel
theorem dX12_crosses_30 : decode cX12_crosses 30 = .ok (.iload_n 2, 1) := by decide +kernel
theorem dX12_crosses_31 : decode cX12_crosses 31 = .ok (.ishl, 1) := by decide +kernel
theorem dX12_crosses_32 : decode cX12_crosses 32 = .ok (.ixor, 1) := by decide +kernel
theorem dX12_crosses_33 : decode cX12_crosses 33 = .ok (.putfield 238, 3) := by decide +kernel
theorem dX12_crosses_36 : decode cX12_crosses 36 = .ok (.aload_n 0, 1) := by decide +kernel
theorem dX12_crosses_37 : decode cX12_crosses 37 = .ok (.iconst 1, 1) := by decide +kernel
theorem dX12_crosses_38 : decode cX12_crosses 38 = .ok (.iload 4, 2) := by decide +kernel
theorem dX12_crosses_40 : decode cX12_crosses 40 = .ok (.isub, 1) := by decide +kernel
theorem dX12_crosses_41 : decode cX12_crosses 41 = .ok (.putfield 241, 3) := by decide +kernel
theorem dX12_crosses_44 : decode cX12_crosses 44 = .ok (.aload_n 0, 1) := by decide +kernel
theorem dX12_crosses_45 : decode cX12_crosses 45 = .ok (.iload 4, 2) := by decide +kernel
theorem dX12_crosses_47 : decode cX12_crosses 47 = .ok (.invokevirtual 266, 3) := by decide +kernel
theorem dX12_crosses_50 : decode cX12_crosses 50 = .ok (.aload_n 0, 1) := by decide +kernel
theorem dX12_crosses_51 : decode cX12_crosses 51 = .ok (.getfield 34, 3) := by decide +kernel
theorem dX12_crosses_54 : decode cX12_crosses 54 = .ok (.iconst 1, 1) := by decide +kernel
theorem dX12_crosses_55 : decode cX12_crosses 55 = .ok (.iaload, 1) := by decide +kernel
theorem dX12_crosses_56 : decode cX12_crosses 56 = .ok (.iconst 1, 1) := by decide +kernel
theorem dX12_crosses_57 : decode cX12_crosses 57 = .ok (.if_icmp .ne 7, 3) := by decide +kernel
theorem dX12_crosses_60 : decode cX12_crosses 60 = .ok (.iconst 1, 1) := by decide +kernel
theorem dX12_crosses_61 : decode cX12_crosses 61 = .ok (.goto 4, 3) := by decide +kernel
theorem dX12_crosses_64 : decode cX12_crosses 64 = .ok (.iconst 0, 1) := by decide +kernel
theorem dX12_crosses_65 : decode cX12_crosses 65 = .ok (.istore 5, 2) := by decide +kernel
theorem dX12_crosses_67 : decode cX12_crosses 67 = .ok (.iload_n 3, 1) := by decide +kernel
theorem dX12_crosses_68 : decode cX12_crosses 68 = .ok (.ifCond .eq 8, 3) := by decide +kernel
theorem dX12_crosses_71 : decode cX12_crosses 71 = .ok (.iload 5, 2) := by decide +kernel
theorem dX12_crosses_73 : decode cX12_crosses 73 = .ok (.ifCond .eq 10, 3) := by decide +kernel
theorem dX12_crosses_76 : decode cX12_crosses 76 = .ok (.aload_n 0, 1) := by decide +kernel
theorem dX12_crosses_77 : decode cX12_crosses 77 = .ok (.iload_n 1, 1) := by decide +kernel
theorem dX12_crosses_78 : decode cX12_crosses 78 = .ok (.iconst 1, 1) := by decide +kernel
theorem dX12_crosses_79 : decode cX12_crosses 79 = .ok (.iadd, 1) := by decide +kernel
theorem dX12_crosses_80 : decode cX12_crosses 80 = .ok (.putfield 244, 3) := by decide +kernel
theorem dX12_crosses_83 : decode cX12_crosses 83 = .ok (.aload_n 0, 1) := by decide +kernel
theorem dX12_crosses_84 : decode cX12_crosses 84 = .ok (.getfield 34, 3) := by decide +kernel
theorem dX12_crosses_87 : decode cX12_crosses 87 = .ok (.iconst 3, 1) := by decide +kernel
theorem dX12_crosses_88 : decode cX12_crosses 88 = .ok (.iaload, 1) := by decide +kernel
theorem dX12_crosses_89 : decode cX12_crosses 89 = .ok (.iconst 1, 1) := by decide +kernel
theorem dX12_crosses_90 : decode cX12_crosses 90 = .ok (.if_icmp .le 20, 3) := by decide +kernel
theorem dX12_crosses_93 : decode cX12_crosses 93 = .ok (.iload_n 3, 1) := by decide +kernel
theorem dX12_crosses_94 : decode cX12_crosses 94 = .ok (.iconst 1, 1) := by decide +kernel
theorem dX12_crosses_95 : decode cX12_crosses 95 = .ok (.if_icmp .eq 8, 3) := by decide +kernel
theorem dX12_crosses_98 : decode cX12_crosses 98 = .ok (.iload 5, 2) := by decide +kernel
theorem dX12_crosses_100 : decode cX12_crosses 100 = .ok (.ifCond .eq 10, 3) := by decide +kernel
theorem dX12_crosses_103 : decode cX12_crosses 103 = .ok (.aload_n 0, 1) := by decide +kernel
theorem dX12_crosses_104 : decode cX12_crosses 104 = .ok (.iload_n 1, 1) := by decide +kernel
theorem dX12_crosses_105 : decode cX12_crosses 105 = .ok (.iconst 1, 1) := by decide +kernel
theorem dX12_crosses_106 : decode cX12_crosses 106 = .ok (.iadd, 1) := by decide +kernel
theorem dX12_crosses_107 : decode cX12_crosses 107 = .ok (.putfield 247, 3) := by decide +kernel
theorem dX12_crosses_110 : decode cX12_crosses 110 = .ok (.return_, 1) := by decide +kernel
theorem dX12_isActNumber_0 : decode cX12_isActNumber 0 = .ok (.lload_n 1, 1) := by decide +kernel
theorem dX12_isActNumber_1 : decode cX12_isActNumber 1 = .ok (.ldc2_w 268, 3) := by decide +kernel
theorem dX12_isActNumber_4 : decode cX12_isActNumber 4 = .ok (.lcmp, 1) := by decide +kernel
theorem dX12_isActNumber_5 : decode cX12_isActNumber 5 = .ok (.ifCond .ne 5, 3) := by decide +kernel
theorem dX12_isActNumber_8 : decode cX12_isActNumber 8 = .ok (.iconst 1, 1) := by decide +kernel
theorem dX12_isActNumber_9 : decode cX12_isActNumber 9 = .ok (.ireturn, 1) := by decide +kernel
theorem dX12_isActNumber_10 : decode cX12_isActNumber 10 = .ok (.lload_n 1, 1) := by decide +kernel
theorem dX12_isActNumber_11 : decode cX12_isActNumber 11 = .ok (.lconst 0, 1) := by decide +kernel
theorem dX12_isActNumber_12 : decode cX12_isActNumber 12 = .ok (.lcmp, 1) := by decide +kernel
theorem dX12_isActNumber_13 : decode cX12_isActNumber 13 = .ok (.ifCond .lt 59, 3) := by decide +kernel
theorem dX12_isActNumber_16 : decode cX12_isActNumber 16 = .ok (.lload_n 1, 1) := by decide +kernel
theorem dX12_isActNumber_17 : decode cX12_isActNumber 17 = .ok (.ldc2_w 270, 3) := by decide +kernel
theorem dX12_isActNumber_20 : decode cX12_isActNumber 20 = .ok (.aload_n 0, 1) := by decide +kernel
theorem dX12_isActNumber_21 : decode cX12_isActNumber 21 = .ok (.getfield 34, 3) := by decide +kernel
theorem dX12_isActNumber_24 : decode cX12_isActNumber 24 = .ok (.iconst 3, 1) := by decide +kernel
theorem dX12_isActNumber_25 : decode cX12_isActNumber 25 = .ok (.iaload, 1) := by decide +kernel
theorem dX12_isActNumber_26 : decode cX12_isActNumber 26 = .ok (.i2l, 1) := by decide +kernel
theorem dX12_isActNumber_27 : decode cX12_isActNumber 27 = .ok (.lmul, 1) := by decide +kernel
theorem dX12_isActNumber_28 : decode cX12_isActNumber 28 = .ok (.lcmp, 1) := by decide +kernel
theorem dX12_isActNumber_29 : decode cX12_isActNumber 29 = .ok (.ifCond .ge 43, 3) := by decide +kernel
theorem dX12_isActNumber_32 : decode cX12_isActNumber 32 = .ok (.lload_n 1, 1) := by decide +kernel
theorem dX12_isActNumber_33 : decode cX12_isActNumber 33 = .ok (.ldc2_w 272, 3) := by decide +kernel
theorem dX12_isActNumber_36 : decode cX12_isActNumber 36 = .ok (.lrem, 1) := by decide +kernel
theorem dX12_isActNumber_37 : decode cX12_isActNumber 37 = .ok (.aload_n 0, 1) := by decide +kernel
theorem dX12_isActNumber_38 : decode cX12_isActNumber 38 = .ok (.getfield 34, 3) := by decide +kernel
theorem dX12_isActNumber_41 : decode cX12_isActNumber 41 = .ok (.iconst 2, 1) := by decide +kernel
theorem dX12_isActNumber_42 : decode cX12_isActNumber 42 = .ok (.iaload, 1) := by decide +kernel
theorem dX12_isActNumber_43 : decode cX12_isActNumber 43 = .ok (.i2l, 1) := by decide +kernel
theorem dX12_isActNumber_44 : decode cX12_isActNumber 44 = .ok (.lcmp, 1) := by decide +kernel
theorem dX12_isActNumber_45 : decode cX12_isActNumber 45 = .ok (.ifCond .ge 27, 3) := by decide +kernel
theorem dX12_isActNumber_48 : decode cX12_isActNumber 48 = .ok (.lload_n 1, 1) := by decide +kernel
theorem dX12_isActNumber_49 : decode cX12_isActNumber 49 = .ok (.ldc2_w 270, 3) := by decide +kernel
theorem dX12_isActNumber_52 : decode cX12_isActNumber 52 = .ok (.lrem, 1) := by decide +kernel
theorem dX12_isActNumber_53 : decode cX12_isActNumber 53 = .ok (.ldc2_w 272, 3) := by decide +kernel
theorem dX12_isActNumber_56 : decode cX12_isActNumber 56 = .ok (.ldiv, 1) := by decide +kernel
theorem dX12_isActNumber_57 : decode cX12_isActNumber 57 = .ok (.aload_n 0, 1) := by decide +kernel
theorem dX12_isActNumber_58 : decode cX12_isActNumber 58 = .ok (.getfield 34, 3) := by decide +kernel
theorem dX12_isActNumber_61 : decode cX12_isActNumber 61 = .ok (.iconst 2, 1) := by decide +kernel
theorem dX12_isActNumber_62 : decode cX12_isActNumber 62 = .ok (.iaload, 1) := by decide +kernel
theorem dX12_isActNumber_63 : decode cX12_isActNumber 63 = .ok (.i2l, 1) := by decide +kernel
theorem dX12_isActNumber_64 : decode cX12_isActNumber 64 = .ok (.lcmp, 1) := by decide +kernel
theorem dX12_isActNumber_65 : decode cX12_isActNumber 65 = .ok (.ifCond .gt 7, 3) := by decide +kernel
theorem dX12_isActNumber_68 : decode cX12_isActNumber 68 = .ok (.iconst 1, 1) := by decide +kernel
theorem dX12_isActNumber_69 : decode cX12_isActNumber 69 = .ok (.goto 4, 3) := by decide +kernel
theorem dX12_isActNumber_72 : decode cX12_isActNumber 72 = .ok (.iconst 0, 1) := by decide +kernel
theorem dX12_isActNumber_73 : decode cX12_isActNumber 73 = .ok (.ireturn, 1) := by decide +kernel
theorem dX12_mayAct_0 : decode cX12_mayAct 0 = .ok (.iload_n 1, 1) := by decide +kernel
theorem dX12_mayAct_1 : decode cX12_mayAct 1 = .ok (.sipush 200, 3) := by decide +kernel
theorem dX12_mayAct_4 : decode cX12_mayAct 4 = .ok (.if_icmp .eq 27, 3) := by decide +kernel
theorem dX12_mayAct_7 : decode cX12_mayAct 7 = .ok (.aload_n 0, 1) := by decide +kernel
theorem dX12_mayAct_8 : decode cX12_mayAct 8 = .ok (.iload_n 1, 1) := by decide +kernel
theorem dX12_mayAct_9 : decode cX12_mayAct 9 = .ok (.bipush 10, 2) := by decide +kernel
theorem dX12_mayAct_11 : decode cX12_mayAct 11 = .ok (.irem, 1) := by decide +kernel
theorem dX12_mayAct_12 : decode cX12_mayAct 12 = .ok (.iload_n 1, 1) := by decide +kernel
theorem dX12_mayAct_13 : decode cX12_mayAct 13 = .ok (.bipush 100, 2) := by decide +kernel
theorem dX12_mayAct_15 : decode cX12_mayAct 15 = .ok (.irem, 1) := by decide +kernel
theorem dX12_mayAct_16 : decode cX12_mayAct 16 = .ok (.bipush 10, 2) := by decide +kernel
theorem dX12_mayAct_18 : decode cX12_mayAct 18 = .ok (.idiv, 1) := by decide +kernel
theorem dX12_mayAct_19 : decode cX12_mayAct 19 = .ok (.iconst 1, 1) := by decide +kernel
theorem dX12_mayAct_20 : decode cX12_mayAct 20 = .ok (.isub, 1) := by decide +kernel
theorem dX12_mayAct_21 : decode cX12_mayAct 21 = .ok (.iload_n 1, 1) := by decide +kernel
theorem dX12_mayAct_22 : decode cX12_mayAct 22 = .ok (.bipush 100, 2) := by decide +kernel
theorem dX12_mayAct_24 : decode cX12_mayAct 24 = .ok (.idiv, 1) := by decide +kernel
theorem dX12_mayAct_25 : decode cX12_mayAct 25 = .ok (.invokevirtual 274, 3) := by decide +kernel
theorem dX12_mayAct_28 : decode cX12_mayAct 28 = .ok (.ifCond .ne 7, 3) := by decide +kernel
theorem dX12_mayAct_31 : decode cX12_mayAct 31 = .ok (.iconst 1, 1) := by decide +kernel
theorem dX12_mayAct_32 : decode cX12_mayAct 32 = .ok (.goto 4, 3) := by decide +kernel
theorem dX12_mayAct_35 : decode cX12_mayAct 35 = .ok (.iconst 0, 1) := by decide +kernel
theorem dX12_mayAct_36 : decode cX12_mayAct 36 = .ok (.ireturn, 1) := by decide +kernel
theorem dX12_does_0 : decode cX12_does 0 = .ok (.iload_n 1, 1) := by decide +kernel
theorem dX12_does_1 : decode cX12_does 1 = .ok (.sipush 200, 3) := by decide +kernel
theorem dX12_does_4 : decode cX12_does 4 = .ok (.if_icmp .ne 16, 3) := by decide +kernel
theorem dX12_does_7 : decode cX12_does 7 = .ok (.aload_n 0, 1) := by decide +kernel
theorem dX12_does_8 : decode cX12_does 8 = .ok (.iconst 1, 1) := by decide +kernel
theorem dX12_does_9 : decode cX12_does 9 = .ok (.aload_n 0, 1) := by decide +kernel
theorem dX12_does_10 : decode cX12_does 10 = .ok (.getfield 241, 3) := by decide +kernel
theorem dX12_does_13 : decode cX12_does 13 = .ok (.isub, 1) := by decide +kernel
theorem dX12_does_14 : decode cX12_does 14 = .ok (.putfield 241, 3) := by decide +kernel
theorem dX12_does_17 : decode cX12_does 17 = .ok (.goto 24, 3) := by decide +kernel
theorem dX12_does_20 : decode cX12_does 20 = .ok (.aload_n 0, 1) := by decide +kernel
theorem dX12_does_21 : decode cX12_does 21 = .ok (.iload_n 1, 1) := by decide +kernel
theorem dX12_does_22 : decode cX12_does 22 = .ok (.bipush 10, 2) := by decide +kernel
theorem dX12_does_24 : decode cX12_does 24 = .ok (.irem, 1) := by decide +kernel
theorem dX12_does_25 : decode cX12_does 25 = .ok (.iload_n 1, 1) := by decide +kernel
theorem dX12_does_26 : decode cX12_does 26 = .ok (.bipush 100, 2) := by decide +kernel
theorem dX12_does_28 : decode cX12_does 28 = .ok (.irem, 1) := by decide +kernel
theorem dX12_does_29 : decode cX12_does 29 = .ok (.bipush 10, 2) := by decide +kernel
theorem dX12_does_31 : decode cX12_does 31 = .ok (.idiv, 1) := by decide +kernel
theorem dX12_does_32 : decode cX12_does 32 = .ok (.iconst 1, 1) := by decide +kernel
theorem dX12_does_33 : decode cX12_does 33 = .ok (.isub, 1) := by decide +kernel
theorem dX12_does_34 : decode cX12_does 34 = .ok (.iload_n 1, 1) := by decide +kernel
theorem dX12_does_35 : decode cX12_does 35 = .ok (.bipush 100, 2) := by decide +kernel
theorem dX12_does_37 : decode cX12_does 37 = .ok (.idiv, 1) := by decide +kernel
theorem dX12_does_38 : decode cX12_does 38 = .ok (.invokevirtual 278, 3) := by decide +kernel
theorem dX12_does_41 : decode cX12_does 41 = .ok (.return_, 1) := by decide +kernel
theorem dX12_nextAct_0 : decode cX12_nextAct 0 = .ok (.iload_n 1, 1) := by decide +kernel
theorem dX12_nextAct_1 : decode cX12_nextAct 1 = .ok (.istore_n 2, 1) := by decide +kernel
theorem dX12_nextAct_2 : decode cX12_nextAct 2 = .ok (.iload_n 2, 1) := by decide +kernel
theorem dX12_nextAct_3 : decode cX12_nextAct 3 = .ok (.bipush 100, 2) := by decide +kernel
theorem dX12_nextAct_5 : decode cX12_nextAct 5 = .ok (.aload_n 0, 1) := by decide +kernel
theorem dX12_nextAct_6 : decode cX12_nextAct 6 = .ok (.getfield 34, 3) := by decide +kernel
theorem dX12_nextAct_9 : decode cX12_nextAct 9 = .ok (.iconst 3, 1) := by decide +kernel
theorem dX12_nextAct_10 : decode cX12_nextAct 10 = .ok (.iaload, 1) := by decide +kernel
theorem dX12_nextAct_11 : decode cX12_nextAct 11 = .ok (.imul, 1) := by decide +kernel
theorem dX12_nextAct_12 : decode cX12_nextAct 12 = .ok (.if_icmp .ge 28, 3) := by decide +kernel
theorem dX12_nextAct_15 : decode cX12_nextAct 15 = .ok (.aload_n 0, 1) := by decide +kernel
theorem dX12_nextAct_16 : decode cX12_nextAct 16 = .ok (.iload_n 2, 1) := by decide +kernel
theorem dX12_nextAct_17 : decode cX12_nextAct 17 = .ok (.i2l, 1) := by decide +kernel
theorem dX12_nextAct_18 : decode cX12_nextAct 18 = .ok (.invokevirtual 282, 3) := by decide +kernel
theorem dX12_nextAct_21 : decode cX12_nextAct 21 = .ok (.ifCond .eq 13, 3) := by decide +kernel
theorem dX12_nextAct_24 : decode cX12_nextAct 24 = .ok (.aload_n 0, 1) := by decide +kernel
theorem dX12_nextAct_25 : decode cX12_nextAct 25 = .ok (.iload_n 2, 1) := by decide +kernel
theorem dX12_nextAct_26 : decode cX12_nextAct 26 = .ok (.invokevirtual 285, 3) := by decide +kernel
theorem dX12_nextAct_29 : decode cX12_nextAct 29 = .ok (.ifCond .eq 5, 3) := by decide +kernel
theorem dX12_nextAct_32 : decode cX12_nextAct 32 = .ok (.iload_n 2, 1) := by decide +kernel
theorem dX12_nextAct_33 : decode cX12_nextAct 33 = .ok (.ireturn, 1) := by decide +kernel
theorem dX12_nextAct_34 : decode cX12_nextAct 34 = .ok (.iinc 2 1, 3) := by decide +kernel
theorem dX12_nextAct_37 : decode cX12_nextAct 37 = .ok (.goto (-35), 3) := by decide +kernel
theorem dX12_nextAct_40 : decode cX12_nextAct 40 = .ok (.iload_n 1, 1) := by decide +kernel
theorem dX12_nextAct_41 : decode cX12_nextAct 41 = .ok (.sipush 200, 3) := by decide +kernel
theorem dX12_nextAct_44 : decode cX12_nextAct 44 = .ok (.if_icmp .gt 9, 3) := by decide +kernel
theorem dX12_nextAct_47 : decode cX12_nextAct 47 = .ok (.sipush 200, 3) := by decide +kernel
theorem dX12_nextAct_50 : decode cX12_nextAct 50 = .ok (.goto 4, 3) := by decide +kernel
theorem dX12_nextAct_53 : decode cX12_nextAct 53 = .ok (.iconst (-1), 1) := by decide +kernel
theorem dX12_nextAct_54 : decode cX12_nextAct 54 = .ok (.ireturn, 1) := by decide +kernel
theorem dX12_start_0 : decode cX12_start 0 = .ok (.aload_n 0, 1) := by decide +kernel
theorem dX12_start_1 : decode cX12_start 1 = .ok (.iconst 0, 1) := by decide +kernel
theorem dX12_start_2 : decode cX12_start 2 = .ok (.invokevirtual 288, 3) := by decide +kernel
theorem dX12_start_5 : decode cX12_start 5 = .ok (.aload_n 0, 1) := by decide +kernel
theorem dX12_start_6 : decode cX12_start 6 = .ok (.iconst 0, 1) := by decide +kernel
theorem dX12_start_7 : decode cX12_start 7 = .ok (.putfield 291, 3) := by decide +kernel
theorem dX12_start_10 : decode cX12_start 10 = .ok (.aload_n 0, 1) := by decide +kernel
theorem dX12_start_11 : decode cX12_start 11 = .ok (.iconst 0, 1) := by decide +kernel
theorem dX12_start_12 : decode cX12_start 12 = .ok (.putfield 294, 3) := by decide +kernel
theorem dX12_start_15 : decode cX12_start 15 = .ok (.aload_n 0, 1) := by decide +kernel
theorem dX12_start_16 : decode cX12_start 16 = .ok (.iconst 0, 1) := by decide +kernel
theorem dX12_start_17 : decode cX12_start 17 = .ok (.putfield 297, 3) := by decide +kernel
theorem dX12_start_20 : decode cX12_start 20 = .ok (.return_, 1) := by decide +kernel
theorem dX12_goes_0 : decode cX12_goes 0 = .ok (.iload_n 1, 1) := by decide +kernel
theorem dX12_goes_1 : decode cX12_goes 1 = .ok (.sipush 200, 3) := by decide +kernel
theorem dX12_goes_4 : decode cX12_goes 4 = .ok (.if_icmp .ne 21, 3) := by decide +kernel
theorem dX12_goes_7 : decode cX12_goes 7 = .ok (.aload_n 0, 1) := by decide +kernel
theorem dX12_goes_8 : decode cX12_goes 8 = .ok (.dup, 1) := by decide +kernel
theorem dX12_goes_9 : decode cX12_goes 9 = .ok (.getfield 291, 3) := by decide +kernel
theorem dX12_goes_12 : decode cX12_goes 12 = .ok (.aload_n 0, 1) := by decide +kernel
theorem dX12_goes_13 : decode cX12_goes 13 = .ok (.getfield 34, 3) := by decide +kernel
theorem dX12_goes_16 : decode cX12_goes 16 = .ok (.iconst 0, 1) := by decide +kernel
theorem dX12_goes_17 : decode cX12_goes 17 = .ok (.iaload, 1) := by decide +kernel
theorem dX12_goes_18 : decode cX12_goes 18 = .ok (.iadd, 1) := by decide +kernel
theorem dX12_goes_19 : decode cX12_goes 19 = .ok (.putfield 291, 3) := by decide +kernel
theorem dX12_goes_22 : decode cX12_goes 22 = .ok (.goto 65, 3) := by decide +kernel
theorem dX12_goes_25 : decode cX12_goes 25 = .ok (.aload_n 0, 1) := by decide +kernel
theorem dX12_goes_26 : decode cX12_goes 26 = .ok (.getfield 53, 3) := by decide +kernel
theorem dX12_goes_29 : decode cX12_goes 29 = .ok (.aload_n 0, 1) := by decide +kernel
theorem dX12_goes_30 : decode cX12_goes 30 = .ok (.getfield 297, 3) := by decide +kernel
theorem dX12_goes_33 : decode cX12_goes 33 = .ok (.bipush 10, 2) := by decide +kernel
theorem dX12_goes_35 : decode cX12_goes 35 = .ok (.iload_n 1, 1) := by decide +kernel
theorem dX12_goes_36 : decode cX12_goes 36 = .ok (.bipush 100, 2) := by decide +kernel
theorem dX12_goes_38 : decode cX12_goes 38 = .ok (.idiv, 1) := by decide +kernel
theorem dX12_goes_39 : decode cX12_goes 39 = .ok (.imul, 1) := by decide +kernel
theorem dX12_goes_40 : decode cX12_goes 40 = .ok (.aload_n 0, 1) := by decide +kernel
theorem dX12_goes_41 : decode cX12_goes 41 = .ok (.getfield 241, 3) := by decide +kernel
theorem dX12_goes_44 : decode cX12_goes 44 = .ok (.iadd, 1) := by decide +kernel
theorem dX12_goes_45 : decode cX12_goes 45 = .ok (.iastore, 1) := by decide +kernel
theorem dX12_goes_46 : decode cX12_goes 46 = .ok (.aload_n 0, 1) := by decide +kernel
theorem dX12_goes_47 : decode cX12_goes 47 = .ok (.dup, 1) := by decide +kernel
theorem dX12_goes_48 : decode cX12_goes 48 = .ok (.getfield 297, 3) := by decide +kernel
theorem dX12_goes_51 : decode cX12_goes 51 = .ok (.iconst 1, 1) := by decide +kernel
theorem dX12_goes_52 : decode cX12_goes 52 = .ok (.iadd, 1) := by decide +kernel
theorem dX12_goes_53 : decode cX12_goes 53 = .ok (.putfield 297, 3) := by decide +kernel
theorem dX12_goes_56 : decode cX12_goes 56 = .ok (.aload_n 0, 1) := by decide +kernel
theorem dX12_goes_57 : decode cX12_goes 57 = .ok (.dup, 1) := by decide +kernel
theorem dX12_goes_58 : decode cX12_goes 58 = .ok (.getfield 291, 3) := by decide +kernel
theorem dX12_goes_61 : decode cX12_goes 61 = .ok (.iconst 1, 1) := by decide +kernel
theorem dX12_goes_62 : decode cX12_goes 62 = .ok (.iadd, 1) := by decide +kernel
theorem dX12_goes_63 : decode cX12_goes 63 = .ok (.putfield 291, 3) := by decide +kernel
theorem dX12_goes_66 : decode cX12_goes 66 = .ok (.aload_n 0, 1) := by decide +kernel
theorem dX12_goes_67 : decode cX12_goes 67 = .ok (.dup, 1) := by decide +kernel
theorem dX12_goes_68 : decode cX12_goes 68 = .ok (.getfield 294, 3) := by decide +kernel
theorem dX12_goes_71 : decode cX12_goes 71 = .ok (.aload_n 0, 1) := by decide +kernel
theorem dX12_goes_72 : decode cX12_goes 72 = .ok (.iload_n 1, 1) := by decide +kernel
theorem dX12_goes_73 : decode cX12_goes 73 = .ok (.bipush 10, 2) := by decide +kernel
theorem dX12_goes_75 : decode cX12_goes 75 = .ok (.irem, 1) := by decide +kernel
theorem dX12_goes_76 : decode cX12_goes 76 = .ok (.iload_n 1, 1) := by decide +kernel
theorem dX12_goes_77 : decode cX12_goes 77 = .ok (.bipush 100, 2) := by decide +kernel
theorem dX12_goes_79 : decode cX12_goes 79 = .ok (.idiv, 1) := by decide +kernel
theorem dX12_goes_80 : decode cX12_goes 80 = .ok (.invokevirtual 300, 3) := by decide +kernel
theorem dX12_goes_83 : decode cX12_goes 83 = .ok (.iadd, 1) := by decide +kernel
theorem dX12_goes_84 : decode cX12_goes 84 = .ok (.putfield 294, 3) := by decide +kernel
theorem dX12_goes_87 : decode cX12_goes 87 = .ok (.aload_n 0, 1) := by decide +kernel
theorem dX12_goes_88 : decode cX12_goes 88 = .ok (.iload_n 1, 1) := by decide +kernel
theorem dX12_goes_89 : decode cX12_goes 89 = .ok (.invokevirtual 303, 3) := by decide +kernel
theorem dX12_goes_92 : decode cX12_goes 92 = .ok (.return_, 1) := by decide +kernel
theorem dX12_lays_0 : decode cX12_lays 0 = .ok (.aload_n 0, 1) := by decide +kernel
theorem dX12_lays_1 : decode cX12_lays 1 = .ok (.invokevirtual 306, 3) := by decide +kernel
theorem dX12_lays_4 : decode cX12_lays 4 = .ok (.iconst 0, 1) := by decide +kernel
theorem dX12_lays_5 : decode cX12_lays 5 = .ok (.istore_n 1, 1) := by decide +kernel
theorem dX12_lays_6 : decode cX12_lays 6 = .ok (.iload_n 1, 1) := by decide +kernel
theorem dX12_lays_7 : decode cX12_lays 7 = .ok (.aload_n 0, 1) := by decide +kernel
theorem dX12_lays_8 : decode cX12_lays 8 = .ok (.getfield 34, 3) := by decide +kernel
theorem dX12_lays_11 : decode cX12_lays 11 = .ok (.bipush 6, 2) := by decide +kernel
theorem dX12_lays_13 : decode cX12_lays 13 = .ok (.iaload, 1) := by decide +kernel
theorem dX12_lays_14 : decode cX12_lays 14 = .ok (.if_icmp .ge 19, 3) := by decide +kernel
theorem dX12_lays_17 : decode cX12_lays 17 = .ok (.aload_n 0, 1) := by decide +kernel
theorem dX12_lays_18 : decode cX12_lays 18 = .ok (.aload_n 0, 1) := by decide +kernel
theorem dX12_lays_19 : decode cX12_lays 19 = .ok (.getfield 46, 3) := by decide +kernel
theorem dX12_lays_22 : decode cX12_lays 22 = .ok (.iload_n 1, 1) := by decide +kernel
theorem dX12_lays_23 : decode cX12_lays 23 = .ok (.iaload, 1) := by decide +kernel
theorem dX12_lays_24 : decode cX12_lays 24 = .ok (.invokevirtual 309, 3) := by decide +kernel
theorem dX12_lays_27 : decode cX12_lays 27 = .ok (.iinc 1 1, 3) := by decide +kernel
theorem dX12_lays_30 : decode cX12_lays 30 = .ok (.goto (-24), 3) := by decide +kernel
theorem dX12_lays_33 : decode cX12_lays 33 = .ok (.return_, 1) := by decide +kernel
theorem dX12_liesNow_0 : decode cX12_liesNow 0 = .ok (.iconst 0, 1) := by decide +kernel
theorem dX12_liesNow_1 : decode cX12_liesNow 1 = .ok (.istore_n 1, 1) := by decide +kernel
theorem dX12_liesNow_2 : decode cX12_liesNow 2 = .ok (.iconst 1, 1) := by decide +kernel
theorem dX12_liesNow_3 : decode cX12_liesNow 3 = .ok (.istore_n 2, 1) := by decide +kernel
theorem dX12_liesNow_4 : decode cX12_liesNow 4 = .ok (.iload_n 2, 1) := by decide +kernel
theorem dX12_liesNow_5 : decode cX12_liesNow 5 = .ok (.aload_n 0, 1) := by decide +kernel
theorem dX12_liesNow_6 : decode cX12_liesNow 6 = .ok (.getfield 297, 3) := by decide +kernel
theorem dX12_liesNow_9 : decode cX12_liesNow 9 = .ok (.if_icmp .ge 40, 3) := by decide +kernel
theorem dX12_liesNow_12 : decode cX12_liesNow 12 = .ok (.iload_n 1, 1) := by decide +kernel
theorem dX12_liesNow_13 : decode cX12_liesNow 13 = .ok (.aload_n 0, 1) := by decide +kernel
theorem dX12_liesNow_14 : decode cX12_liesNow 14 = .ok (.getfield 53, 3) := by decide +kernel
theorem dX12_liesNow_17 : decode cX12_liesNow 17 = .ok (.iload_n 2, 1) := by decide +kernel
theorem dX12_liesNow_18 : decode cX12_liesNow 18 = .ok (.iaload, 1) := by decide +kernel
theorem dX12_liesNow_19 : decode cX12_liesNow 19 = .ok (.bipush 10, 2) := by decide +kernel
theorem dX12_liesNow_21 : decode cX12_liesNow 21 = .ok (.irem, 1) := by decide +kernel
theorem dX12_liesNow_22 : decode cX12_liesNow 22 = .ok (.aload_n 0, 1) := by decide +kernel
theorem dX12_liesNow_23 : decode cX12_liesNow 23 = .ok (.getfield 53, 3) := by decide +kernel
theorem dX12_liesNow_26 : decode cX12_liesNow 26 = .ok (.iload_n 2, 1) := by decide +kernel
theorem dX12_liesNow_27 : decode cX12_liesNow 27 = .ok (.iconst 1, 1) := by decide +kernel
theorem dX12_liesNow_28 : decode cX12_liesNow 28 = .ok (.isub, 1) := by decide +kernel
theorem dX12_liesNow_29 : decode cX12_liesNow 29 = .ok (.iaload, 1) := by decide +kernel
theorem dX12_liesNow_30 : decode cX12_liesNow 30 = .ok (.bipush 10, 2) := by decide +kernel
theorem dX12_liesNow_32 : decode cX12_liesNow 32 = .ok (.irem, 1) := by decide +kernel
theorem dX12_liesNow_33 : decode cX12_liesNow 33 = .ok (.if_icmp .ne 7, 3) := by decide +kernel
theorem dX12_liesNow_36 : decode cX12_liesNow 36 = .ok (.iconst 1, 1) := by decide +kernel
theorem dX12_liesNow_37 : decode cX12_liesNow 37 = .ok (.goto 4, 3) := by decide +kernel
theorem dX12_liesNow_40 : decode cX12_liesNow 40 = .ok (.iconst 0, 1) := by decide +kernel
theorem dX12_liesNow_41 : decode cX12_liesNow 41 = .ok (.iadd, 1) := by decide +kernel
theorem dX12_liesNow_42 : decode cX12_liesNow 42 = .ok (.istore_n 1, 1) := by decide +kernel
theorem dX12_liesNow_43 : decode cX12_liesNow 43 = .ok (.iinc 2 1, 3) := by decide +kernel
theorem dX12_liesNow_46 : decode cX12_liesNow 46 = .ok (.goto (-42), 3) := by decide +kernel
theorem dX12_liesNow_49 : decode cX12_liesNow 49 = .ok (.iload_n 1, 1) := by decide +kernel
theorem dX12_liesNow_50 : decode cX12_liesNow 50 = .ok (.ireturn, 1) := by decide +kernel
theorem dX12_person_0 : decode cX12_person 0 = .ok (.aload_n 0, 1) := by decide +kernel
theorem dX12_person_1 : decode cX12_person 1 = .ok (.iconst 0, 1) := by decide +kernel
theorem dX12_person_2 : decode cX12_person 2 = .ok (.putfield 88, 3) := by decide +kernel
theorem dX12_person_5 : decode cX12_person 5 = .ok (.aload_n 0, 1) := by decide +kernel
theorem dX12_person_6 : decode cX12_person 6 = .ok (.iload_n 1, 1) := by decide +kernel
theorem dX12_person_7 : decode cX12_person 7 = .ok (.invokevirtual 312, 3) := by decide +kernel
theorem dX12_person_10 : decode cX12_person 10 = .ok (.ifCond .eq 15, 3) := by decide +kernel
theorem dX12_person_13 : decode cX12_person 13 = .ok (.iload_n 2, 1) := by decide +kernel
theorem dX12_person_14 : decode cX12_person 14 = .ok (.i2l, 1) := by decide +kernel
theorem dX12_person_15 : decode cX12_person 15 = .ok (.lconst 0, 1) := by decide +kernel
theorem dX12_person_16 : decode cX12_person 16 = .ok (.ldc2_w 315, 3) := by decide +kernel
theorem dX12_person_19 : decode cX12_person 19 = .ok (.invokestatic 93, 3) := by decide +kernel
theorem dX12_person_22 : decode cX12_person 22 = .ok (.ifCond .ne 6, 3) := by decide +kernel
theorem dX12_person_25 : decode cX12_person 25 = .ok (.bipush (-2), 2) := by decide +kernel
theorem dX12_person_27 : decode cX12_person 27 = .ok (.ireturn, 1) := by decide +kernel
theorem dX12_person_28 : decode cX12_person 28 = .ok (.iload_n 2, 1) := by decide +kernel
theorem dX12_person_29 : decode cX12_person 29 = .ok (.iconst 2, 1) := by decide +kernel
theorem dX12_person_30 : decode cX12_person 30 = .ok (.if_icmp .ge 23, 3) := by decide +kernel
theorem dX12_person_33 : decode cX12_person 33 = .ok (.iload_n 2, 1) := by decide +kernel
theorem dX12_person_34 : decode cX12_person 34 = .ok (.ifCond .ne 12, 3) := by decide +kernel
theorem dX12_person_37 : decode cX12_person 37 = .ok (.aload_n 0, 1) := by decide +kernel
theorem dX12_person_38 : decode cX12_person 38 = .ok (.getfield 37, 3) := by decide +kernel
theorem dX12_person_41 : decode cX12_person 41 = .ok (.iload_n 1, 1) := by decide +kernel
theorem dX12_person_42 : decode cX12_person 42 = .ok (.iaload, 1) := by decide +kernel
theorem dX12_person_43 : decode cX12_person 43 = .ok (.goto 9, 3) := by decide +kernel
theorem dX12_person_46 : decode cX12_person 46 = .ok (.aload_n 0, 1) := by decide +kernel
theorem dX12_person_47 : decode cX12_person 47 = .ok (.getfield 40, 3) := by decide +kernel
theorem dX12_person_50 : decode cX12_person 50 = .ok (.iload_n 1, 1) := by decide +kernel
theorem dX12_person_51 : decode cX12_person 51 = .ok (.iaload, 1) := by decide +kernel
theorem dX12_person_52 : decode cX12_person 52 = .ok (.ireturn, 1) := by decide +kernel
theorem dX12_person_53 : decode cX12_person 53 = .ok (.aload_n 0, 1) := by decide +kernel
theorem dX12_person_54 : decode cX12_person 54 = .ok (.invokevirtual 317, 3) := by decide +kernel
theorem dX12_person_57 : decode cX12_person 57 = .ok (.iload_n 2, 1) := by decide +kernel
theorem dX12_person_58 : decode cX12_person 58 = .ok (.iconst 2, 1) := by decide +kernel
theorem dX12_person_59 : decode cX12_person 59 = .ok (.if_icmp .ne 12, 3) := by decide +kernel
theorem dX12_person_62 : decode cX12_person 62 = .ok (.aload_n 0, 1) := by decide +kernel
theorem dX12_person_63 : decode cX12_person 63 = .ok (.getfield 34, 3) := by decide +kernel
theorem dX12_person_66 : decode cX12_person 66 = .ok (.iconst 4, 1) := by decide +kernel
theorem dX12_person_67 : decode cX12_person 67 = .ok (.iaload, 1) := by decide +kernel
theorem dX12_person_68 : decode cX12_person 68 = .ok (.goto 21, 3) := by decide +kernel
theorem dX12_person_71 : decode cX12_person 71 = .ok (.iload_n 2, 1) := by decide +kernel
theorem dX12_person_72 : decode cX12_person 72 = .ok (.iconst 3, 1) := by decide +kernel
theorem dX12_person_73 : decode cX12_person 73 = .ok (.if_icmp .ne 12, 3) := by decide +kernel
theorem dX12_person_76 : decode cX12_person 76 = .ok (.aload_n 0, 1) := by decide +kernel
theorem dX12_person_77 : decode cX12_person 77 = .ok (.getfield 34, 3) := by decide +kernel
theorem dX12_person_80 : decode cX12_person 80 = .ok (.iconst 5, 1) := by decide +kernel
theorem dX12_person_81 : decode cX12_person 81 = .ok (.iaload, 1) := by decide +kernel
theorem dX12_person_82 : decode cX12_person 82 = .ok (.goto 7, 3) := by decide +kernel
theorem dX12_person_85 : decode cX12_person 85 = .ok (.aload_n 0, 1) := by decide +kernel
theorem dX12_person_86 : decode cX12_person 86 = .ok (.getfield 238, 3) := by decide +kernel
theorem dX12_person_89 : decode cX12_person 89 = .ok (.iload_n 1, 1) := by decide +kernel
theorem dX12_person_90 : decode cX12_person 90 = .ok (.ishr, 1) := by decide +kernel
theorem dX12_person_91 : decode cX12_person 91 = .ok (.iconst 1, 1) := by decide +kernel
theorem dX12_person_92 : decode cX12_person 92 = .ok (.iand, 1) := by decide +kernel
theorem dX12_person_93 : decode cX12_person 93 = .ok (.ireturn, 1) := by decide +kernel
theorem dX12_post_0 : decode cX12_post 0 = .ok (.aload_n 0, 1) := by decide +kernel
theorem dX12_post_1 : decode cX12_post 1 = .ok (.iconst 0, 1) := by decide +kernel
theorem dX12_post_2 : decode cX12_post 2 = .ok (.putfield 88, 3) := by decide +kernel
theorem dX12_post_5 : decode cX12_post 5 = .ok (.aload_n 0, 1) := by decide +kernel
theorem dX12_post_6 : decode cX12_post 6 = .ok (.iload_n 1, 1) := by decide +kernel
theorem dX12_post_7 : decode cX12_post 7 = .ok (.invokevirtual 320, 3) := by decide +kernel
theorem dX12_post_10 : decode cX12_post 10 = .ok (.ifCond .eq 15, 3) := by decide +kernel
theorem dX12_post_13 : decode cX12_post 13 = .ok (.iload_n 2, 1) := by decide +kernel
theorem dX12_post_14 : decode cX12_post 14 = .ok (.i2l, 1) := by decide +kernel
theorem dX12_post_15 : decode cX12_post 15 = .ok (.lconst 0, 1) := by decide +kernel
theorem dX12_post_16 : decode cX12_post 16 = .ok (.ldc2_w 91, 3) := by decide +kernel
theorem dX12_post_19 : decode cX12_post 19 = .ok (.invokestatic 93, 3) := by decide +kernel
theorem dX12_post_22 : decode cX12_post 22 = .ok (.ifCond .ne 6, 3) := by decide +kernel
theorem dX12_post_25 : decode cX12_post 25 = .ok (.bipush (-2), 2) := by decide +kernel
theorem dX12_post_27 : decode cX12_post 27 = .ok (.ireturn, 1) := by decide +kernel
theorem dX12_post_28 : decode cX12_post 28 = .ok (.aload_n 0, 1) := by decide +kernel
theorem dX12_post_29 : decode cX12_post 29 = .ok (.invokevirtual 317, 3) := by decide +kernel
theorem dX12_post_32 : decode cX12_post 32 = .ok (.iload_n 2, 1) := by decide +kernel
theorem dX12_post_33 : decode cX12_post 33 = .ok (.iconst 3, 1) := by decide +kernel
theorem dX12_post_34 : decode cX12_post 34 = .ok (.if_icmp .ge 16, 3) := by decide +kernel
theorem dX12_post_37 : decode cX12_post 37 = .ok (.aload_n 0, 1) := by decide +kernel
theorem dX12_post_38 : decode cX12_post 38 = .ok (.getfield 43, 3) := by decide +kernel
theorem dX12_post_41 : decode cX12_post 41 = .ok (.iconst 3, 1) := by decide +kernel
theorem dX12_post_42 : decode cX12_post 42 = .ok (.iload_n 1, 1) := by decide +kernel
theorem dX12_post_43 : decode cX12_post 43 = .ok (.imul, 1) := by decide +kernel
theorem dX12_post_44 : decode cX12_post 44 = .ok (.iload_n 2, 1) := by decide +kernel
theorem dX12_post_45 : decode cX12_post 45 = .ok (.iadd, 1) := by decide +kernel
theorem dX12_post_46 : decode cX12_post 46 = .ok (.iaload, 1) := by decide +kernel
theorem dX12_post_47 : decode cX12_post 47 = .ok (.goto 20, 3) := by decide +kernel
theorem dX12_post_50 : decode cX12_post 50 = .ok (.iload_n 1, 1) := by decide +kernel
theorem dX12_post_51 : decode cX12_post 51 = .ok (.ifCond .ne 10, 3) := by decide +kernel
theorem dX12_post_54 : decode cX12_post 54 = .ok (.aload_n 0, 1) := by decide +kernel
theorem dX12_post_55 : decode cX12_post 55 = .ok (.getfield 244, 3) := by decide +kernel
theorem dX12_post_58 : decode cX12_post 58 = .ok (.goto 7, 3) := by decide +kernel
theorem dX12_post_61 : decode cX12_post 61 = .ok (.aload_n 0, 1) := by decide +kernel
theorem dX12_post_62 : decode cX12_post 62 = .ok (.getfield 247, 3) := by decide +kernel
theorem dX12_post_65 : decode cX12_post 65 = .ok (.iconst 1, 1) := by decide +kernel
theorem dX12_post_66 : decode cX12_post 66 = .ok (.isub, 1) := by decide +kernel
theorem dX12_post_67 : decode cX12_post 67 = .ok (.ireturn, 1) := by decide +kernel
theorem dX12_risk_0 : decode cX12_risk 0 = .ok (.aload_n 0, 1) := by decide +kernel
theorem dX12_risk_1 : decode cX12_risk 1 = .ok (.iconst 0, 1) := by decide +kernel
theorem dX12_risk_2 : decode cX12_risk 2 = .ok (.putfield 88, 3) := by decide +kernel
theorem dX12_risk_5 : decode cX12_risk 5 = .ok (.aload_n 0, 1) := by decide +kernel
theorem dX12_risk_6 : decode cX12_risk 6 = .ok (.iload_n 1, 1) := by decide +kernel
theorem dX12_risk_7 : decode cX12_risk 7 = .ok (.invokevirtual 312, 3) := by decide +kernel
theorem dX12_risk_10 : decode cX12_risk 10 = .ok (.ifCond .eq 20, 3) := by decide +kernel
theorem dX12_risk_13 : decode cX12_risk 13 = .ok (.aload_n 0, 1) := by decide +kernel
theorem dX12_risk_14 : decode cX12_risk 14 = .ok (.iload_n 2, 1) := by decide +kernel
theorem dX12_risk_15 : decode cX12_risk 15 = .ok (.invokevirtual 320, 3) := by decide +kernel
theorem dX12_risk_18 : decode cX12_risk 18 = .ok (.ifCond .eq 12, 3) := by decide +kernel
theorem dX12_risk_21 : decode cX12_risk 21 = .ok (.aload_n 0, 1) := by decide +kernel
theorem dX12_risk_22 : decode cX12_risk 22 = .ok (.iload_n 1, 1) := by decide +kernel
theorem dX12_risk_23 : decode cX12_risk 23 = .ok (.iload_n 2, 1) := by decide +kernel
theorem dX12_risk_24 : decode cX12_risk 24 = .ok (.invokevirtual 300, 3) := by decide +kernel
theorem dX12_risk_27 : decode cX12_risk 27 = .ok (.goto 5, 3) := by decide +kernel
theorem dX12_risk_30 : decode cX12_risk 30 = .ok (.bipush (-2), 2) := by decide +kernel
theorem dX12_risk_32 : decode cX12_risk 32 = .ok (.ireturn, 1) := by decide +kernel
theorem dX12_after_0 : decode cX12_after 0 = .ok (.aload_n 0, 1) := by decide +kernel
theorem dX12_after_1 : decode cX12_after 1 = .ok (.iconst 0, 1) := by decide +kernel
theorem dX12_after_2 : decode cX12_after 2 = .ok (.putfield 88, 3) := by decide +kernel
theorem dX12_after_5 : decode cX12_after 5 = .ok (.iload_n 1, 1) := by decide +kernel
theorem dX12_after_6 : decode cX12_after 6 = .ok (.iconst (-1), 1) := by decide +kernel
theorem dX12_after_7 : decode cX12_after 7 = .ok (.if_icmp .eq 11, 3) := by decide +kernel
theorem dX12_after_10 : decode cX12_after 10 = .ok (.aload_n 0, 1) := by decide +kernel
theorem dX12_after_11 : decode cX12_after 11 = .ok (.iload_n 1, 1) := by decide +kernel
theorem dX12_after_12 : decode cX12_after 12 = .ok (.invokevirtual 312, 3) := by decide +kernel
theorem dX12_after_15 : decode cX12_after 15 = .ok (.ifCond .eq 11, 3) := by decide +kernel
theorem dX12_after_18 : decode cX12_after 18 = .ok (.aload_n 0, 1) := by decide +kernel
theorem dX12_after_19 : decode cX12_after 19 = .ok (.iload_n 2, 1) := by decide +kernel
theorem dX12_after_20 : decode cX12_after 20 = .ok (.invokevirtual 320, 3) := by decide +kernel
theorem dX12_after_23 : decode cX12_after 23 = .ok (.ifCond .ne 6, 3) := by decide +kernel
theorem dX12_after_26 : decode cX12_after 26 = .ok (.bipush (-2), 2) := by decide +kernel
theorem dX12_after_28 : decode cX12_after 28 = .ok (.ireturn, 1) := by decide +kernel
theorem dX12_after_29 : decode cX12_after 29 = .ok (.iconst 0, 1) := by decide +kernel
theorem dX12_after_30 : decode cX12_after 30 = .ok (.istore_n 3, 1) := by decide +kernel
theorem dX12_after_31 : decode cX12_after 31 = .ok (.iconst 0, 1) := by decide +kernel
theorem dX12_after_32 : decode cX12_after 32 = .ok (.istore 4, 2) := by decide +kernel
theorem dX12_after_34 : decode cX12_after 34 = .ok (.iload 4, 2) := by decide +kernel
theorem dX12_after_36 : decode cX12_after 36 = .ok (.aload_n 0, 1) := by decide +kernel
theorem dX12_after_37 : decode cX12_after 37 = .ok (.getfield 34, 3) := by decide +kernel
theorem dX12_after_40 : decode cX12_after 40 = .ok (.iconst 2, 1) := by decide +kernel
theorem dX12_after_41 : decode cX12_after 41 = .ok (.iaload, 1) := by decide +kernel
theorem dX12_after_42 : decode cX12_after 42 = .ok (.if_icmp .ge 47, 3) := by decide +kernel
theorem dX12_after_45 : decode cX12_after 45 = .ok (.iload_n 3, 1) := by decide +kernel
theorem dX12_after_46 : decode cX12_after 46 = .ok (.aload_n 0, 1) := by decide +kernel
theorem dX12_after_47 : decode cX12_after 47 = .ok (.getfield 34, 3) := by decide +kernel
theorem dX12_after_50 : decode cX12_after 50 = .ok (.iconst 4, 1) := by decide +kernel
theorem dX12_after_51 : decode cX12_after 51 = .ok (.iaload, 1) := by decide +kernel
theorem dX12_after_52 : decode cX12_after 52 = .ok (.iload 4, 2) := by decide +kernel
theorem dX12_after_54 : decode cX12_after 54 = .ok (.invokestatic 189, 3) := by decide +kernel
theorem dX12_after_57 : decode cX12_after 57 = .ok (.ifCond .ne 23, 3) := by decide +kernel
theorem dX12_after_60 : decode cX12_after 60 = .ok (.aload_n 0, 1) := by decide +kernel
theorem dX12_after_61 : decode cX12_after 61 = .ok (.iload 4, 2) := by decide +kernel
theorem dX12_after_63 : decode cX12_after 63 = .ok (.iload_n 1, 1) := by decide +kernel
theorem dX12_after_64 : decode cX12_after 64 = .ok (.iconst 1, 1) := by decide +kernel
theorem dX12_after_65 : decode cX12_after 65 = .ok (.iadd, 1) := by decide +kernel
theorem dX12_after_66 : decode cX12_after 66 = .ok (.iload_n 2, 1) := by decide +kernel
theorem dX12_after_67 : decode cX12_after 67 = .ok (.invokevirtual 256, 3) := by decide +kernel
theorem dX12_after_70 : decode cX12_after 70 = .ok (.ifCond .eq 10, 3) := by decide +kernel
theorem dX12_after_73 : decode cX12_after 73 = .ok (.iconst 1, 1) := by decide +kernel
theorem dX12_after_74 : decode cX12_after 74 = .ok (.iload 4, 2) := by decide +kernel
theorem dX12_after_76 : decode cX12_after 76 = .ok (.ishl, 1) := by decide +kernel
theorem dX12_after_77 : decode cX12_after 77 = .ok (.goto 4, 3) := by decide +kernel
theorem dX12_after_80 : decode cX12_after 80 = .ok (.iconst 0, 1) := by decide +kernel
theorem dX12_after_81 : decode cX12_after 81 = .ok (.ior, 1) := by decide +kernel
theorem dX12_after_82 : decode cX12_after 82 = .ok (.istore_n 3, 1) := by decide +kernel
theorem dX12_after_83 : decode cX12_after 83 = .ok (.iinc 4 1, 3) := by decide +kernel
theorem dX12_after_86 : decode cX12_after 86 = .ok (.goto (-52), 3) := by decide +kernel
theorem dX12_after_89 : decode cX12_after 89 = .ok (.iload_n 3, 1) := by decide +kernel
theorem dX12_after_90 : decode cX12_after 90 = .ok (.ireturn, 1) := by decide +kernel
theorem dX12_now_0 : decode cX12_now 0 = .ok (.aload_n 0, 1) := by decide +kernel
theorem dX12_now_1 : decode cX12_now 1 = .ok (.iconst 0, 1) := by decide +kernel
theorem dX12_now_2 : decode cX12_now 2 = .ok (.putfield 88, 3) := by decide +kernel
theorem dX12_now_5 : decode cX12_now 5 = .ok (.aload_n 0, 1) := by decide +kernel
theorem dX12_now_6 : decode cX12_now 6 = .ok (.invokevirtual 323, 3) := by decide +kernel
theorem dX12_now_9 : decode cX12_now 9 = .ok (.ifCond .eq 15, 3) := by decide +kernel
theorem dX12_now_12 : decode cX12_now 12 = .ok (.iload_n 1, 1) := by decide +kernel
theorem dX12_now_13 : decode cX12_now 13 = .ok (.i2l, 1) := by decide +kernel
theorem dX12_now_14 : decode cX12_now 14 = .ok (.lconst 0, 1) := by decide +kernel
theorem dX12_now_15 : decode cX12_now 15 = .ok (.ldc2_w 315, 3) := by decide +kernel
theorem dX12_now_18 : decode cX12_now 18 = .ok (.invokestatic 93, 3) := by decide +kernel
theorem dX12_now_21 : decode cX12_now 21 = .ok (.ifCond .ne 6, 3) := by decide +kernel
theorem dX12_now_24 : decode cX12_now 24 = .ok (.bipush (-2), 2) := by decide +kernel
theorem dX12_now_26 : decode cX12_now 26 = .ok (.ireturn, 1) := by decide +kernel
theorem dX12_now_27 : decode cX12_now 27 = .ok (.aload_n 0, 1) := by decide +kernel
theorem dX12_now_28 : decode cX12_now 28 = .ok (.invokevirtual 317, 3) := by decide +kernel
theorem dX12_now_31 : decode cX12_now 31 = .ok (.iload_n 1, 1) := by decide +kernel
theorem dX12_now_32 : decode cX12_now 32 = .ok (.ifCond .ne 10, 3) := by decide +kernel
theorem dX12_now_35 : decode cX12_now 35 = .ok (.aload_n 0, 1) := by decide +kernel
theorem dX12_now_36 : decode cX12_now 36 = .ok (.getfield 238, 3) := by decide +kernel
theorem dX12_now_39 : decode cX12_now 39 = .ok (.goto 43, 3) := by decide +kernel
theorem dX12_now_42 : decode cX12_now 42 = .ok (.iload_n 1, 1) := by decide +kernel
theorem dX12_now_43 : decode cX12_now 43 = .ok (.iconst 1, 1) := by decide +kernel
theorem dX12_now_44 : decode cX12_now 44 = .ok (.if_icmp .ne 10, 3) := by decide +kernel
theorem dX12_now_47 : decode cX12_now 47 = .ok (.aload_n 0, 1) := by decide +kernel
theorem dX12_now_48 : decode cX12_now 48 = .ok (.getfield 241, 3) := by decide +kernel
theorem dX12_now_51 : decode cX12_now 51 = .ok (.goto 31, 3) := by decide +kernel
theorem dX12_now_54 : decode cX12_now 54 = .ok (.iload_n 1, 1) := by decide +kernel
theorem dX12_now_55 : decode cX12_now 55 = .ok (.iconst 2, 1) := by decide +kernel
theorem dX12_now_56 : decode cX12_now 56 = .ok (.if_icmp .ne 10, 3) := by decide +kernel
theorem dX12_now_59 : decode cX12_now 59 = .ok (.aload_n 0, 1) := by decide +kernel
theorem dX12_now_60 : decode cX12_now 60 = .ok (.getfield 291, 3) := by decide +kernel
theorem dX12_now_63 : decode cX12_now 63 = .ok (.goto 19, 3) := by decide +kernel
theorem dX12_now_66 : decode cX12_now 66 = .ok (.iload_n 1, 1) := by decide +kernel
theorem dX12_now_67 : decode cX12_now 67 = .ok (.iconst 3, 1) := by decide +kernel
theorem dX12_now_68 : decode cX12_now 68 = .ok (.if_icmp .ne 10, 3) := by decide +kernel
theorem dX12_now_71 : decode cX12_now 71 = .ok (.aload_n 0, 1) := by decide +kernel
theorem dX12_now_72 : decode cX12_now 72 = .ok (.getfield 297, 3) := by decide +kernel
theorem dX12_now_75 : decode cX12_now 75 = .ok (.goto 7, 3) := by decide +kernel
theorem dX12_now_78 : decode cX12_now 78 = .ok (.aload_n 0, 1) := by decide +kernel
theorem dX12_now_79 : decode cX12_now 79 = .ok (.getfield 294, 3) := by decide +kernel
theorem dX12_now_82 : decode cX12_now 82 = .ok (.ireturn, 1) := by decide +kernel
theorem dX12_stamp_0 : decode cX12_stamp 0 = .ok (.aload_n 0, 1) := by decide +kernel
theorem dX12_stamp_1 : decode cX12_stamp 1 = .ok (.iconst 0, 1) := by decide +kernel
theorem dX12_stamp_2 : decode cX12_stamp 2 = .ok (.putfield 88, 3) := by decide +kernel
theorem dX12_stamp_5 : decode cX12_stamp 5 = .ok (.aload_n 0, 1) := by decide +kernel
theorem dX12_stamp_6 : decode cX12_stamp 6 = .ok (.invokevirtual 323, 3) := by decide +kernel
theorem dX12_stamp_9 : decode cX12_stamp 9 = .ok (.ifCond .ne 6, 3) := by decide +kernel
theorem dX12_stamp_12 : decode cX12_stamp 12 = .ok (.bipush (-2), 2) := by decide +kernel
theorem dX12_stamp_14 : decode cX12_stamp 14 = .ok (.ireturn, 1) := by decide +kernel
theorem dX12_stamp_15 : decode cX12_stamp 15 = .ok (.aload_n 0, 1) := by decide +kernel
theorem dX12_stamp_16 : decode cX12_stamp 16 = .ok (.invokevirtual 317, 3) := by decide +kernel
theorem dX12_stamp_19 : decode cX12_stamp 19 = .ok (.iload_n 1, 1) := by decide +kernel
theorem dX12_stamp_20 : decode cX12_stamp 20 = .ok (.i2l, 1) := by decide +kernel
theorem dX12_stamp_21 : decode cX12_stamp 21 = .ok (.lconst 0, 1) := by decide +kernel
theorem dX12_stamp_22 : decode cX12_stamp 22 = .ok (.aload_n 0, 1) := by decide +kernel
theorem dX12_stamp_23 : decode cX12_stamp 23 = .ok (.getfield 297, 3) := by decide +kernel
theorem dX12_stamp_26 : decode cX12_stamp 26 = .ok (.iconst 1, 1) := by decide +kernel
theorem dX12_stamp_27 : decode cX12_stamp 27 = .ok (.isub, 1) := by decide +kernel
theorem dX12_stamp_28 : decode cX12_stamp 28 = .ok (.i2l, 1) := by decide +kernel
theorem dX12_stamp_29 : decode cX12_stamp 29 = .ok (.invokestatic 93, 3) := by decide +kernel
theorem dX12_stamp_32 : decode cX12_stamp 32 = .ok (.ifCond .eq 12, 3) := by decide +kernel
theorem dX12_stamp_35 : decode cX12_stamp 35 = .ok (.aload_n 0, 1) := by decide +kernel
theorem dX12_stamp_36 : decode cX12_stamp 36 = .ok (.getfield 53, 3) := by decide +kernel
theorem dX12_stamp_39 : decode cX12_stamp 39 = .ok (.iload_n 1, 1) := by decide +kernel
theorem dX12_stamp_40 : decode cX12_stamp 40 = .ok (.iaload, 1) := by decide +kernel
theorem dX12_stamp_41 : decode cX12_stamp 41 = .ok (.goto 4, 3) := by decide +kernel
theorem dX12_stamp_44 : decode cX12_stamp 44 = .ok (.iconst (-1), 1) := by decide +kernel
theorem dX12_stamp_45 : decode cX12_stamp 45 = .ok (.ireturn, 1) := by decide +kernel
theorem dX12_lies_0 : decode cX12_lies 0 = .ok (.aload_n 0, 1) := by decide +kernel
theorem dX12_lies_1 : decode cX12_lies 1 = .ok (.iconst 0, 1) := by decide +kernel
theorem dX12_lies_2 : decode cX12_lies 2 = .ok (.putfield 88, 3) := by decide +kernel
theorem dX12_lies_5 : decode cX12_lies 5 = .ok (.aload_n 0, 1) := by decide +kernel
theorem dX12_lies_6 : decode cX12_lies 6 = .ok (.invokevirtual 323, 3) := by decide +kernel
theorem dX12_lies_9 : decode cX12_lies 9 = .ok (.ifCond .ne 6, 3) := by decide +kernel
theorem dX12_lies_12 : decode cX12_lies 12 = .ok (.bipush (-2), 2) := by decide +kernel
theorem dX12_lies_14 : decode cX12_lies 14 = .ok (.ireturn, 1) := by decide +kernel
theorem dX12_lies_15 : decode cX12_lies 15 = .ok (.aload_n 0, 1) := by decide +kernel
theorem dX12_lies_16 : decode cX12_lies 16 = .ok (.invokevirtual 317, 3) := by decide +kernel
theorem dX12_lies_19 : decode cX12_lies 19 = .ok (.aload_n 0, 1) := by decide +kernel
theorem dX12_lies_20 : decode cX12_lies 20 = .ok (.invokevirtual 326, 3) := by decide +kernel
theorem dX12_lies_23 : decode cX12_lies 23 = .ok (.ireturn, 1) := by decide +kernel
theorem dX12_isCrossing_0 : decode cX12_isCrossing 0 = .ok (.aload_n 0, 1) := by decide +kernel
theorem dX12_isCrossing_1 : decode cX12_isCrossing 1 = .ok (.iload_n 1, 1) := by decide +kernel
theorem dX12_isCrossing_2 : decode cX12_isCrossing 2 = .ok (.invokevirtual 312, 3) := by decide +kernel
theorem dX12_isCrossing_5 : decode cX12_isCrossing 5 = .ok (.ifCond .eq 28, 3) := by decide +kernel
theorem dX12_isCrossing_8 : decode cX12_isCrossing 8 = .ok (.iload_n 2, 1) := by decide +kernel
theorem dX12_isCrossing_9 : decode cX12_isCrossing 9 = .ok (.iconst (-1), 1) := by decide +kernel
theorem dX12_isCrossing_10 : decode cX12_isCrossing 10 = .ok (.if_icmp .eq 11, 3) := by decide +kernel
theorem dX12_isCrossing_13 : decode cX12_isCrossing 13 = .ok (.aload_n 0, 1) := by decide +kernel
theorem dX12_isCrossing_14 : decode cX12_isCrossing 14 = .ok (.iload_n 2, 1) := by decide +kernel
theorem dX12_isCrossing_15 : decode cX12_isCrossing 15 = .ok (.invokevirtual 312, 3) := by decide +kernel
theorem dX12_isCrossing_18 : decode cX12_isCrossing 18 = .ok (.ifCond .eq 15, 3) := by decide +kernel
theorem dX12_isCrossing_21 : decode cX12_isCrossing 21 = .ok (.aload_n 0, 1) := by decide +kernel
theorem dX12_isCrossing_22 : decode cX12_isCrossing 22 = .ok (.iload_n 3, 1) := by decide +kernel
theorem dX12_isCrossing_23 : decode cX12_isCrossing 23 = .ok (.invokevirtual 320, 3) := by decide +kernel
theorem dX12_isCrossing_26 : decode cX12_isCrossing 26 = .ok (.ifCond .eq 7, 3) := by decide +kernel
theorem dX12_isCrossing_29 : decode cX12_isCrossing 29 = .ok (.iconst 1, 1) := by decide +kernel
theorem dX12_isCrossing_30 : decode cX12_isCrossing 30 = .ok (.goto 4, 3) := by decide +kernel
theorem dX12_isCrossing_33 : decode cX12_isCrossing 33 = .ok (.iconst 0, 1) := by decide +kernel
theorem dX12_isCrossing_34 : decode cX12_isCrossing 34 = .ok (.ireturn, 1) := by decide +kernel
theorem dX12_why_0 : decode cX12_why 0 = .ok (.aload_n 0, 1) := by decide +kernel
theorem dX12_why_1 : decode cX12_why 1 = .ok (.iconst 0, 1) := by decide +kernel
theorem dX12_why_2 : decode cX12_why 2 = .ok (.putfield 88, 3) := by decide +kernel
theorem dX12_why_5 : decode cX12_why 5 = .ok (.aload_n 0, 1) := by decide +kernel
theorem dX12_why_6 : decode cX12_why 6 = .ok (.iload_n 1, 1) := by decide +kernel
theorem dX12_why_7 : decode cX12_why 7 = .ok (.iload_n 2, 1) := by decide +kernel
theorem dX12_why_8 : decode cX12_why 8 = .ok (.iload_n 3, 1) := by decide +kernel
theorem dX12_why_9 : decode cX12_why 9 = .ok (.invokevirtual 330, 3) := by decide +kernel
theorem dX12_why_12 : decode cX12_why 12 = .ok (.ifCond .ne 6, 3) := by decide +kernel
theorem dX12_why_15 : decode cX12_why 15 = .ok (.bipush (-2), 2) := by decide +kernel
theorem dX12_why_17 : decode cX12_why 17 = .ok (.ireturn, 1) := by decide +kernel
theorem dX12_why_18 : decode cX12_why 18 = .ok (.aload_n 0, 1) := by decide +kernel
theorem dX12_why_19 : decode cX12_why 19 = .ok (.invokevirtual 317, 3) := by decide +kernel
theorem dX12_why_22 : decode cX12_why 22 = .ok (.aload_n 0, 1) := by decide +kernel
theorem dX12_why_23 : decode cX12_why 23 = .ok (.iload_n 1, 1) := by decide +kernel
theorem dX12_why_24 : decode cX12_why 24 = .ok (.iload_n 2, 1) := by decide +kernel
theorem dX12_why_25 : decode cX12_why 25 = .ok (.iload_n 3, 1) := by decide +kernel
theorem dX12_why_26 : decode cX12_why 26 = .ok (.invokevirtual 274, 3) := by decide +kernel
theorem dX12_why_29 : decode cX12_why 29 = .ok (.ireturn, 1) := by decide +kernel
theorem dX12_adds_0 : decode cX12_adds 0 = .ok (.aload_n 0, 1) := by decide +kernel
theorem dX12_adds_1 : decode cX12_adds 1 = .ok (.getfield 46, 3) := by decide +kernel
theorem dX12_adds_4 : decode cX12_adds 4 = .ok (.aload_n 0, 1) := by decide +kernel
theorem dX12_adds_5 : decode cX12_adds 5 = .ok (.getfield 34, 3) := by decide +kernel
theorem dX12_adds_8 : decode cX12_adds 8 = .ok (.bipush 6, 2) := by decide +kernel
theorem dX12_adds_10 : decode cX12_adds 10 = .ok (.iaload, 1) := by decide +kernel
theorem dX12_adds_11 : decode cX12_adds 11 = .ok (.iload_n 1, 1) := by decide +kernel
theorem dX12_adds_12 : decode cX12_adds 12 = .ok (.iastore, 1) := by decide +kernel
theorem dX12_adds_13 : decode cX12_adds 13 = .ok (.aload_n 0, 1) := by decide +kernel
theorem dX12_adds_14 : decode cX12_adds 14 = .ok (.getfield 34, 3) := by decide +kernel
theorem dX12_adds_17 : decode cX12_adds 17 = .ok (.bipush 6, 2) := by decide +kernel
theorem dX12_adds_19 : decode cX12_adds 19 = .ok (.dup2, 1) := by decide +kernel
theorem dX12_adds_20 : decode cX12_adds 20 = .ok (.iaload, 1) := by decide +kernel
theorem dX12_adds_21 : decode cX12_adds 21 = .ok (.iconst 1, 1) := by decide +kernel
theorem dX12_adds_22 : decode cX12_adds 22 = .ok (.iadd, 1) := by decide +kernel
theorem dX12_adds_23 : decode cX12_adds 23 = .ok (.iastore, 1) := by decide +kernel
theorem dX12_adds_24 : decode cX12_adds 24 = .ok (.aload_n 0, 1) := by decide +kernel
theorem dX12_adds_25 : decode cX12_adds 25 = .ok (.iload_n 1, 1) := by decide +kernel
theorem dX12_adds_26 : decode cX12_adds 26 = .ok (.invokevirtual 309, 3) := by decide +kernel
theorem dX12_adds_29 : decode cX12_adds 29 = .ok (.aload_n 0, 1) := by decide +kernel
theorem dX12_adds_30 : decode cX12_adds 30 = .ok (.getfield 291, 3) := by decide +kernel
theorem dX12_adds_33 : decode cX12_adds 33 = .ok (.ireturn, 1) := by decide +kernel
theorem dX12_cross_0 : decode cX12_cross 0 = .ok (.aload_n 0, 1) := by decide +kernel
theorem dX12_cross_1 : decode cX12_cross 1 = .ok (.iconst 0, 1) := by decide +kernel
theorem dX12_cross_2 : decode cX12_cross 2 = .ok (.putfield 88, 3) := by decide +kernel
theorem dX12_cross_5 : decode cX12_cross 5 = .ok (.aload_n 0, 1) := by decide +kernel
theorem dX12_cross_6 : decode cX12_cross 6 = .ok (.iload_n 1, 1) := by decide +kernel
theorem dX12_cross_7 : decode cX12_cross 7 = .ok (.iload_n 2, 1) := by decide +kernel
theorem dX12_cross_8 : decode cX12_cross 8 = .ok (.iload_n 3, 1) := by decide +kernel
theorem dX12_cross_9 : decode cX12_cross 9 = .ok (.invokevirtual 330, 3) := by decide +kernel
theorem dX12_cross_12 : decode cX12_cross 12 = .ok (.ifCond .ne 6, 3) := by decide +kernel
theorem dX12_cross_15 : decode cX12_cross 15 = .ok (.bipush (-2), 2) := by decide +kernel
theorem dX12_cross_17 : decode cX12_cross 17 = .ok (.ireturn, 1) := by decide +kernel
theorem dX12_cross_18 : decode cX12_cross 18 = .ok (.aload_n 0, 1) := by decide +kernel
theorem dX12_cross_19 : decode cX12_cross 19 = .ok (.invokevirtual 317, 3) := by decide +kernel
theorem dX12_cross_22 : decode cX12_cross 22 = .ok (.aload_n 0, 1) := by decide +kernel
theorem dX12_cross_23 : decode cX12_cross 23 = .ok (.iload_n 1, 1) := by decide +kernel
theorem dX12_cross_24 : decode cX12_cross 24 = .ok (.iload_n 2, 1) := by decide +kernel
theorem dX12_cross_25 : decode cX12_cross 25 = .ok (.iload_n 3, 1) := by decide +kernel
theorem dX12_cross_26 : decode cX12_cross 26 = .ok (.invokevirtual 274, 3) := by decide +kernel
theorem dX12_cross_29 : decode cX12_cross 29 = .ok (.ifCond .ne 15, 3) := by decide +kernel
theorem dX12_cross_32 : decode cX12_cross 32 = .ok (.aload_n 0, 1) := by decide +kernel
theorem dX12_cross_33 : decode cX12_cross 33 = .ok (.getfield 34, 3) := by decide +kernel
theorem dX12_cross_36 : decode cX12_cross 36 = .ok (.bipush 6, 2) := by decide +kernel
theorem dX12_cross_38 : decode cX12_cross 38 = .ok (.iaload, 1) := by decide +kernel
theorem dX12_cross_39 : decode cX12_cross 39 = .ok (.bipush 40, 2) := by decide +kernel
theorem dX12_cross_41 : decode cX12_cross 41 = .ok (.if_icmp .ne 8, 3) := by decide +kernel
theorem dX12_cross_44 : decode cX12_cross 44 = .ok (.bipush (-5), 2) := by decide +kernel
theorem dX12_cross_46 : decode cX12_cross 46 = .ok (.goto 20, 3) := by decide +kernel
theorem dX12_cross_49 : decode cX12_cross 49 = .ok (.aload_n 0, 1) := by decide +kernel
theorem dX12_cross_50 : decode cX12_cross 50 = .ok (.bipush 100, 2) := by decide +kernel
theorem dX12_cross_52 : decode cX12_cross 52 = .ok (.iload_n 3, 1) := by decide +kernel
theorem dX12_cross_53 : decode cX12_cross 53 = .ok (.imul, 1) := by decide +kernel
theorem dX12_cross_54 : decode cX12_cross 54 = .ok (.bipush 10, 2) := by decide +kernel
theorem dX12_cross_56 : decode cX12_cross 56 = .ok (.iload_n 2, 1) := by decide +kernel
theorem dX12_cross_57 : decode cX12_cross 57 = .ok (.iconst 1, 1) := by decide +kernel
theorem dX12_cross_58 : decode cX12_cross 58 = .ok (.iadd, 1) := by decide +kernel
theorem dX12_cross_59 : decode cX12_cross 59 = .ok (.imul, 1) := by decide +kernel
theorem dX12_cross_60 : decode cX12_cross 60 = .ok (.iadd, 1) := by decide +kernel
theorem dX12_cross_61 : decode cX12_cross 61 = .ok (.iload_n 1, 1) := by decide +kernel
theorem dX12_cross_62 : decode cX12_cross 62 = .ok (.iadd, 1) := by decide +kernel
theorem dX12_cross_63 : decode cX12_cross 63 = .ok (.invokevirtual 333, 3) := by decide +kernel
theorem dX12_cross_66 : decode cX12_cross 66 = .ok (.ireturn, 1) := by decide +kernel
theorem dX12_loaf_0 : decode cX12_loaf 0 = .ok (.aload_n 0, 1) := by decide +kernel
theorem dX12_loaf_1 : decode cX12_loaf 1 = .ok (.iconst 0, 1) := by decide +kernel
theorem dX12_loaf_2 : decode cX12_loaf 2 = .ok (.putfield 88, 3) := by decide +kernel
theorem dX12_loaf_5 : decode cX12_loaf 5 = .ok (.aload_n 0, 1) := by decide +kernel
theorem dX12_loaf_6 : decode cX12_loaf 6 = .ok (.invokevirtual 323, 3) := by decide +kernel
theorem dX12_loaf_9 : decode cX12_loaf 9 = .ok (.ifCond .ne 6, 3) := by decide +kernel
theorem dX12_loaf_12 : decode cX12_loaf 12 = .ok (.bipush (-2), 2) := by decide +kernel
theorem dX12_loaf_14 : decode cX12_loaf 14 = .ok (.ireturn, 1) := by decide +kernel
theorem dX12_loaf_15 : decode cX12_loaf 15 = .ok (.aload_n 0, 1) := by decide +kernel
theorem dX12_loaf_16 : decode cX12_loaf 16 = .ok (.invokevirtual 317, 3) := by decide +kernel
theorem dX12_loaf_19 : decode cX12_loaf 19 = .ok (.aload_n 0, 1) := by decide +kernel
theorem dX12_loaf_20 : decode cX12_loaf 20 = .ok (.getfield 34, 3) := by decide +kernel
theorem dX12_loaf_23 : decode cX12_loaf 23 = .ok (.bipush 6, 2) := by decide +kernel
theorem dX12_loaf_25 : decode cX12_loaf 25 = .ok (.iaload, 1) := by decide +kernel
theorem dX12_loaf_26 : decode cX12_loaf 26 = .ok (.bipush 40, 2) := by decide +kernel
theorem dX12_loaf_28 : decode cX12_loaf 28 = .ok (.if_icmp .ne 8, 3) := by decide +kernel
theorem dX12_loaf_31 : decode cX12_loaf 31 = .ok (.bipush (-5), 2) := by decide +kernel
theorem dX12_loaf_33 : decode cX12_loaf 33 = .ok (.goto 10, 3) := by decide +kernel
theorem dX12_loaf_36 : decode cX12_loaf 36 = .ok (.aload_n 0, 1) := by decide +kernel
theorem dX12_loaf_37 : decode cX12_loaf 37 = .ok (.sipush 200, 3) := by decide +kernel
theorem dX12_loaf_40 : decode cX12_loaf 40 = .ok (.invokevirtual 333, 3) := by decide +kernel
theorem dX12_loaf_43 : decode cX12_loaf 43 = .ok (.ireturn, 1) := by decide +kernel
theorem dX12_undo_0 : decode cX12_undo 0 = .ok (.aload_n 0, 1) := by decide +kernel
theorem dX12_undo_1 : decode cX12_undo 1 = .ok (.iconst 0, 1) := by decide +kernel
theorem dX12_undo_2 : decode cX12_undo 2 = .ok (.putfield 88, 3) := by decide +kernel
theorem dX12_undo_5 : decode cX12_undo 5 = .ok (.aload_n 0, 1) := by decide +kernel
theorem dX12_undo_6 : decode cX12_undo 6 = .ok (.invokevirtual 323, 3) := by decide +kernel
theorem dX12_undo_9 : decode cX12_undo 9 = .ok (.ifCond .ne 6, 3) := by decide +kernel
theorem dX12_undo_12 : decode cX12_undo 12 = .ok (.bipush (-2), 2) := by decide +kernel
theorem dX12_undo_14 : decode cX12_undo 14 = .ok (.ireturn, 1) := by decide +kernel
theorem dX12_undo_15 : decode cX12_undo 15 = .ok (.aload_n 0, 1) := by decide +kernel
theorem dX12_undo_16 : decode cX12_undo 16 = .ok (.getfield 34, 3) := by decide +kernel
theorem dX12_undo_19 : decode cX12_undo 19 = .ok (.bipush 6, 2) := by decide +kernel
theorem dX12_undo_21 : decode cX12_undo 21 = .ok (.iaload, 1) := by decide +kernel
theorem dX12_undo_22 : decode cX12_undo 22 = .ok (.ifCond .ne 6, 3) := by decide +kernel
theorem dX12_undo_25 : decode cX12_undo 25 = .ok (.bipush (-5), 2) := by decide +kernel
theorem dX12_undo_27 : decode cX12_undo 27 = .ok (.ireturn, 1) := by decide +kernel
theorem dX12_undo_28 : decode cX12_undo 28 = .ok (.aload_n 0, 1) := by decide +kernel
theorem dX12_undo_29 : decode cX12_undo 29 = .ok (.getfield 34, 3) := by decide +kernel
theorem dX12_undo_32 : decode cX12_undo 32 = .ok (.bipush 6, 2) := by decide +kernel
theorem dX12_undo_34 : decode cX12_undo 34 = .ok (.dup2, 1) := by decide +kernel
theorem dX12_undo_35 : decode cX12_undo 35 = .ok (.iaload, 1) := by decide +kernel
theorem dX12_undo_36 : decode cX12_undo 36 = .ok (.iconst 1, 1) := by decide +kernel
theorem dX12_undo_37 : decode cX12_undo 37 = .ok (.isub, 1) := by decide +kernel
theorem dX12_undo_38 : decode cX12_undo 38 = .ok (.iastore, 1) := by decide +kernel
theorem dX12_undo_39 : decode cX12_undo 39 = .ok (.aload_n 0, 1) := by decide +kernel
theorem dX12_undo_40 : decode cX12_undo 40 = .ok (.getfield 34, 3) := by decide +kernel
theorem dX12_undo_43 : decode cX12_undo 43 = .ok (.bipush 6, 2) := by decide +kernel
theorem dX12_undo_45 : decode cX12_undo 45 = .ok (.iaload, 1) := by decide +kernel
theorem dX12_undo_46 : decode cX12_undo 46 = .ok (.ireturn, 1) := by decide +kernel
theorem dX12_anew_0 : decode cX12_anew 0 = .ok (.aload_n 0, 1) := by decide +kernel
theorem dX12_anew_1 : decode cX12_anew 1 = .ok (.iconst 0, 1) := by decide +kernel
theorem dX12_anew_2 : decode cX12_anew 2 = .ok (.putfield 88, 3) := by decide +kernel
theorem dX12_anew_5 : decode cX12_anew 5 = .ok (.aload_n 0, 1) := by decide +kernel
theorem dX12_anew_6 : decode cX12_anew 6 = .ok (.invokevirtual 323, 3) := by decide +kernel
theorem dX12_anew_9 : decode cX12_anew 9 = .ok (.ifCond .ne 6, 3) := by decide +kernel
theorem dX12_anew_12 : decode cX12_anew 12 = .ok (.bipush (-2), 2) := by decide +kernel
theorem dX12_anew_14 : decode cX12_anew 14 = .ok (.ireturn, 1) := by decide +kernel
theorem dX12_anew_15 : decode cX12_anew 15 = .ok (.aload_n 0, 1) := by decide +kernel
theorem dX12_anew_16 : decode cX12_anew 16 = .ok (.getfield 34, 3) := by decide +kernel
theorem dX12_anew_19 : decode cX12_anew 19 = .ok (.bipush 6, 2) := by decide +kernel
theorem dX12_anew_21 : decode cX12_anew 21 = .ok (.iaload, 1) := by decide +kernel
theorem dX12_anew_22 : decode cX12_anew 22 = .ok (.istore_n 1, 1) := by decide +kernel
theorem dX12_anew_23 : decode cX12_anew 23 = .ok (.aload_n 0, 1) := by decide +kernel
theorem dX12_anew_24 : decode cX12_anew 24 = .ok (.getfield 34, 3) := by decide +kernel
theorem dX12_anew_27 : decode cX12_anew 27 = .ok (.bipush 6, 2) := by decide +kernel
theorem dX12_anew_29 : decode cX12_anew 29 = .ok (.iconst 0, 1) := by decide +kernel
theorem dX12_anew_30 : decode cX12_anew 30 = .ok (.iastore, 1) := by decide +kernel
theorem dX12_anew_31 : decode cX12_anew 31 = .ok (.iload_n 1, 1) := by decide +kernel
theorem dX12_anew_32 : decode cX12_anew 32 = .ok (.ireturn, 1) := by decide +kernel
theorem dX12_act_0 : decode cX12_act 0 = .ok (.aload_n 0, 1) := by decide +kernel
theorem dX12_act_1 : decode cX12_act 1 = .ok (.iconst 0, 1) := by decide +kernel
theorem dX12_act_2 : decode cX12_act 2 = .ok (.putfield 88, 3) := by decide +kernel
theorem dX12_act_5 : decode cX12_act 5 = .ok (.aload_n 0, 1) := by decide +kernel
theorem dX12_act_6 : decode cX12_act 6 = .ok (.invokevirtual 323, 3) := by decide +kernel
theorem dX12_act_9 : decode cX12_act 9 = .ok (.ifCond .ne 8, 3) := by decide +kernel
theorem dX12_act_12 : decode cX12_act 12 = .ok (.bipush (-2), 2) := by decide +kernel
theorem dX12_act_14 : decode cX12_act 14 = .ok (.goto 32, 3) := by decide +kernel
theorem dX12_act_17 : decode cX12_act 17 = .ok (.iload_n 1, 1) := by decide +kernel
theorem dX12_act_18 : decode cX12_act 18 = .ok (.i2l, 1) := by decide +kernel
theorem dX12_act_19 : decode cX12_act 19 = .ok (.lconst 0, 1) := by decide +kernel
theorem dX12_act_20 : decode cX12_act 20 = .ok (.aload_n 0, 1) := by decide +kernel
theorem dX12_act_21 : decode cX12_act 21 = .ok (.getfield 34, 3) := by decide +kernel
theorem dX12_act_24 : decode cX12_act 24 = .ok (.bipush 6, 2) := by decide +kernel
theorem dX12_act_26 : decode cX12_act 26 = .ok (.iaload, 1) := by decide +kernel
theorem dX12_act_27 : decode cX12_act 27 = .ok (.iconst 1, 1) := by decide +kernel
theorem dX12_act_28 : decode cX12_act 28 = .ok (.isub, 1) := by decide +kernel
theorem dX12_act_29 : decode cX12_act 29 = .ok (.i2l, 1) := by decide +kernel
theorem dX12_act_30 : decode cX12_act 30 = .ok (.invokestatic 93, 3) := by decide +kernel
theorem dX12_act_33 : decode cX12_act 33 = .ok (.ifCond .eq 12, 3) := by decide +kernel
theorem dX12_act_36 : decode cX12_act 36 = .ok (.aload_n 0, 1) := by decide +kernel
theorem dX12_act_37 : decode cX12_act 37 = .ok (.getfield 46, 3) := by decide +kernel
theorem dX12_act_40 : decode cX12_act 40 = .ok (.iload_n 1, 1) := by decide +kernel
theorem dX12_act_41 : decode cX12_act 41 = .ok (.iaload, 1) := by decide +kernel
theorem dX12_act_42 : decode cX12_act 42 = .ok (.goto 4, 3) := by decide +kernel
theorem dX12_act_45 : decode cX12_act 45 = .ok (.iconst (-1), 1) := by decide +kernel
theorem dX12_act_46 : decode cX12_act 46 = .ok (.ireturn, 1) := by decide +kernel
theorem dX12_acts_0 : decode cX12_acts 0 = .ok (.aload_n 0, 1) := by decide +kernel
theorem dX12_acts_1 : decode cX12_acts 1 = .ok (.iconst 0, 1) := by decide +kernel
theorem dX12_acts_2 : decode cX12_acts 2 = .ok (.putfield 88, 3) := by decide +kernel
theorem dX12_acts_5 : decode cX12_acts 5 = .ok (.aload_n 0, 1) := by decide +kernel
theorem dX12_acts_6 : decode cX12_acts 6 = .ok (.invokevirtual 323, 3) := by decide +kernel
theorem dX12_acts_9 : decode cX12_acts 9 = .ok (.ifCond .ne 6, 3) := by decide +kernel
theorem dX12_acts_12 : decode cX12_acts 12 = .ok (.bipush (-2), 2) := by decide +kernel
theorem dX12_acts_14 : decode cX12_acts 14 = .ok (.ireturn, 1) := by decide +kernel
theorem dX12_acts_15 : decode cX12_acts 15 = .ok (.aload_n 0, 1) := by decide +kernel
theorem dX12_acts_16 : decode cX12_acts 16 = .ok (.invokevirtual 317, 3) := by decide +kernel
theorem dX12_acts_19 : decode cX12_acts 19 = .ok (.iconst 0, 1) := by decide +kernel
theorem dX12_acts_20 : decode cX12_acts 20 = .ok (.istore_n 1, 1) := by decide +kernel
theorem dX12_acts_21 : decode cX12_acts 21 = .ok (.aload_n 0, 1) := by decide +kernel
theorem dX12_acts_22 : decode cX12_acts 22 = .ok (.iconst 0, 1) := by decide +kernel
theorem dX12_acts_23 : decode cX12_acts 23 = .ok (.invokevirtual 336, 3) := by decide +kernel
theorem dX12_acts_26 : decode cX12_acts 26 = .ok (.istore_n 2, 1) := by decide +kernel
theorem dX12_acts_27 : decode cX12_acts 27 = .ok (.iload_n 2, 1) := by decide +kernel
theorem dX12_acts_28 : decode cX12_acts 28 = .ok (.iconst (-1), 1) := by decide +kernel
theorem dX12_acts_29 : decode cX12_acts 29 = .ok (.if_icmp .eq 17, 3) := by decide +kernel
theorem dX12_acts_32 : decode cX12_acts 32 = .ok (.iinc 1 1, 3) := by decide +kernel
theorem dX12_acts_35 : decode cX12_acts 35 = .ok (.aload_n 0, 1) := by decide +kernel
theorem dX12_acts_36 : decode cX12_acts 36 = .ok (.iload_n 2, 1) := by decide +kernel
theorem dX12_acts_37 : decode cX12_acts 37 = .ok (.iconst 1, 1) := by decide +kernel
theorem dX12_acts_38 : decode cX12_acts 38 = .ok (.iadd, 1) := by decide +kernel
theorem dX12_acts_39 : decode cX12_acts 39 = .ok (.invokevirtual 336, 3) := by decide +kernel
theorem dX12_acts_42 : decode cX12_acts 42 = .ok (.istore_n 2, 1) := by decide +kernel
theorem dX12_acts_43 : decode cX12_acts 43 = .ok (.goto (-16), 3) := by decide +kernel
theorem dX12_acts_46 : decode cX12_acts 46 = .ok (.iload_n 1, 1) := by decide +kernel
theorem dX12_acts_47 : decode cX12_acts 47 = .ok (.ireturn, 1) := by decide +kernel
theorem dX12_may_0 : decode cX12_may 0 = .ok (.aload_n 0, 1) := by decide +kernel
theorem dX12_may_1 : decode cX12_may 1 = .ok (.iconst 0, 1) := by decide +kernel
theorem dX12_may_2 : decode cX12_may 2 = .ok (.putfield 88, 3) := by decide +kernel
theorem dX12_may_5 : decode cX12_may 5 = .ok (.aload_n 0, 1) := by decide +kernel
theorem dX12_may_6 : decode cX12_may 6 = .ok (.invokevirtual 323, 3) := by decide +kernel
theorem dX12_may_9 : decode cX12_may 9 = .ok (.ifCond .ne 6, 3) := by decide +kernel
theorem dX12_may_12 : decode cX12_may 12 = .ok (.bipush (-2), 2) := by decide +kernel
theorem dX12_may_14 : decode cX12_may 14 = .ok (.ireturn, 1) := by decide +kernel
theorem dX12_may_15 : decode cX12_may 15 = .ok (.iload_n 1, 1) := by decide +kernel
theorem dX12_may_16 : decode cX12_may 16 = .ok (.ifCond .ge 5, 3) := by decide +kernel
theorem dX12_may_19 : decode cX12_may 19 = .ok (.iconst (-1), 1) := by decide +kernel
theorem dX12_may_20 : decode cX12_may 20 = .ok (.ireturn, 1) := by decide +kernel
theorem dX12_may_21 : decode cX12_may 21 = .ok (.aload_n 0, 1) := by decide +kernel
theorem dX12_may_22 : decode cX12_may 22 = .ok (.invokevirtual 317, 3) := by decide +kernel
theorem dX12_may_25 : decode cX12_may 25 = .ok (.aload_n 0, 1) := by decide +kernel
theorem dX12_may_26 : decode cX12_may 26 = .ok (.iconst 0, 1) := by decide +kernel
theorem dX12_may_27 : decode cX12_may 27 = .ok (.invokevirtual 336, 3) := by decide +kernel
theorem dX12_may_30 : decode cX12_may 30 = .ok (.istore_n 2, 1) := by decide +kernel
theorem dX12_may_31 : decode cX12_may 31 = .ok (.iconst 0, 1) := by decide +kernel
theorem dX12_may_32 : decode cX12_may 32 = .ok (.istore_n 3, 1) := by decide +kernel
theorem dX12_may_33 : decode cX12_may 33 = .ok (.iload_n 3, 1) := by decide +kernel
theorem dX12_may_34 : decode cX12_may 34 = .ok (.iload_n 1, 1) := by decide +kernel
theorem dX12_may_35 : decode cX12_may 35 = .ok (.if_icmp .ge 22, 3) := by decide +kernel
theorem dX12_may_38 : decode cX12_may 38 = .ok (.iload_n 2, 1) := by decide +kernel
theorem dX12_may_39 : decode cX12_may 39 = .ok (.iconst (-1), 1) := by decide +kernel
theorem dX12_may_40 : decode cX12_may 40 = .ok (.if_icmp .eq 17, 3) := by decide +kernel
theorem dX12_may_43 : decode cX12_may 43 = .ok (.aload_n 0, 1) := by decide +kernel
theorem dX12_may_44 : decode cX12_may 44 = .ok (.iload_n 2, 1) := by decide +kernel
theorem dX12_may_45 : decode cX12_may 45 = .ok (.iconst 1, 1) := by decide +kernel
theorem dX12_may_46 : decode cX12_may 46 = .ok (.iadd, 1) := by decide +kernel
theorem dX12_may_47 : decode cX12_may 47 = .ok (.invokevirtual 336, 3) := by decide +kernel
theorem dX12_may_50 : decode cX12_may 50 = .ok (.istore_n 2, 1) := by decide +kernel
theorem dX12_may_51 : decode cX12_may 51 = .ok (.iinc 3 1, 3) := by decide +kernel
theorem dX12_may_54 : decode cX12_may 54 = .ok (.goto (-21), 3) := by decide +kernel
theorem dX12_may_57 : decode cX12_may 57 = .ok (.iload_n 2, 1) := by decide +kernel
theorem dX12_may_58 : decode cX12_may 58 = .ok (.ireturn, 1) := by decide +kernel
theorem dX12_explores_0 : decode cX12_explores 0 = .ok (.iconst 0, 1) := by decide +kernel
theorem dX12_explores_1 : decode cX12_explores 1 = .ok (.istore_n 2, 1) := by decide +kernel
theorem dX12_explores_2 : decode cX12_explores 2 = .ok (.iload_n 2, 1) := by decide +kernel
theorem dX12_explores_3 : decode cX12_explores 3 = .ok (.aload_n 0, 1) := by decide +kernel
theorem dX12_explores_4 : decode cX12_explores 4 = .ok (.getfield 339, 3) := by decide +kernel
theorem dX12_explores_7 : decode cX12_explores 7 = .ok (.if_icmp .ge 21, 3) := by decide +kernel
theorem dX12_explores_10 : decode cX12_explores 10 = .ok (.aload_n 0, 1) := by decide +kernel
theorem dX12_explores_11 : decode cX12_explores 11 = .ok (.getfield 57, 3) := by decide +kernel
theorem dX12_explores_14 : decode cX12_explores 14 = .ok (.aload_n 0, 1) := by decide +kernel
theorem dX12_explores_15 : decode cX12_explores 15 = .ok (.getfield 60, 3) := by decide +kernel
theorem dX12_explores_18 : decode cX12_explores 18 = .ok (.iload_n 2, 1) := by decide +kernel
theorem dX12_explores_19 : decode cX12_explores 19 = .ok (.iaload, 1) := by decide +kernel
theorem dX12_explores_20 : decode cX12_explores 20 = .ok (.iconst 0, 1) := by decide +kernel
theorem dX12_explores_21 : decode cX12_explores 21 = .ok (.bastore, 1) := by decide +kernel
theorem dX12_explores_22 : decode cX12_explores 22 = .ok (.iinc 2 1, 3) := by decide +kernel
theorem dX12_explores_25 : decode cX12_explores 25 = .ok (.goto (-23), 3) := by decide +kernel
theorem dX12_explores_28 : decode cX12_explores 28 = .ok (.aload_n 0, 1) := by decide +kernel
theorem dX12_explores_29 : decode cX12_explores 29 = .ok (.iconst 1, 1) := by decide +kernel
theorem dX12_explores_30 : decode cX12_explores 30 = .ok (.putfield 339, 3) := by decide +kernel
theorem dX12_explores_33 : decode cX12_explores 33 = .ok (.aload_n 0, 1) := by decide +kernel
theorem dX12_explores_34 : decode cX12_explores 34 = .ok (.getfield 60, 3) := by decide +kernel
theorem dX12_explores_37 : decode cX12_explores 37 = .ok (.iconst 0, 1) := by decide +kernel
theorem dX12_explores_38 : decode cX12_explores 38 = .ok (.iload_n 1, 1) := by decide +kernel
theorem dX12_explores_39 : decode cX12_explores 39 = .ok (.iastore, 1) := by decide +kernel
theorem dX12_explores_40 : decode cX12_explores 40 = .ok (.aload_n 0, 1) := by decide +kernel
theorem dX12_explores_41 : decode cX12_explores 41 = .ok (.getfield 57, 3) := by decide +kernel
theorem dX12_explores_44 : decode cX12_explores 44 = .ok (.iload_n 1, 1) := by decide +kernel
theorem dX12_explores_45 : decode cX12_explores 45 = .ok (.iconst 1, 1) := by decide +kernel
theorem dX12_explores_46 : decode cX12_explores 46 = .ok (.bastore, 1) := by decide +kernel
theorem dX12_explores_47 : decode cX12_explores 47 = .ok (.iconst 0, 1) := by decide +kernel
theorem dX12_explores_48 : decode cX12_explores 48 = .ok (.istore_n 2, 1) := by decide +kernel
theorem dX12_explores_49 : decode cX12_explores 49 = .ok (.iload_n 2, 1) := by decide +kernel
theorem dX12_explores_50 : decode cX12_explores 50 = .ok (.aload_n 0, 1) := by decide +kernel
theorem dX12_explores_51 : decode cX12_explores 51 = .ok (.getfield 339, 3) := by decide +kernel
theorem dX12_explores_54 : decode cX12_explores 54 = .ok (.if_icmp .ge 101, 3) := by decide +kernel
theorem dX12_explores_57 : decode cX12_explores 57 = .ok (.aload_n 0, 1) := by decide +kernel
theorem dX12_explores_58 : decode cX12_explores 58 = .ok (.aload_n 0, 1) := by decide +kernel
theorem dX12_explores_59 : decode cX12_explores 59 = .ok (.getfield 60, 3) := by decide +kernel
theorem dX12_explores_62 : decode cX12_explores 62 = .ok (.iload_n 2, 1) := by decide +kernel
theorem dX12_explores_63 : decode cX12_explores 63 = .ok (.iaload, 1) := by decide +kernel
theorem dX12_explores_64 : decode cX12_explores 64 = .ok (.invokevirtual 288, 3) := by decide +kernel
theorem dX12_explores_67 : decode cX12_explores 67 = .ok (.aload_n 0, 1) := by decide +kernel
theorem dX12_explores_68 : decode cX12_explores 68 = .ok (.iconst 0, 1) := by decide +kernel
theorem dX12_explores_69 : decode cX12_explores 69 = .ok (.invokevirtual 336, 3) := by decide +kernel
theorem dX12_explores_72 : decode cX12_explores 72 = .ok (.istore_n 3, 1) := by decide +kernel
theorem dX12_explores_73 : decode cX12_explores 73 = .ok (.iload_n 3, 1) := by decide +kernel
theorem dX12_explores_74 : decode cX12_explores 74 = .ok (.iconst (-1), 1) := by decide +kernel
theorem dX12_explores_75 : decode cX12_explores 75 = .ok (.if_icmp .eq 74, 3) := by decide +kernel
theorem dX12_explores_78 : decode cX12_explores 78 = .ok (.aload_n 0, 1) := by decide +kernel
theorem dX12_explores_79 : decode cX12_explores 79 = .ok (.iload_n 3, 1) := by decide +kernel
theorem dX12_explores_80 : decode cX12_explores 80 = .ok (.invokevirtual 303, 3) := by decide +kernel
theorem dX12_explores_83 : decode cX12_explores 83 = .ok (.aload_n 0, 1) := by decide +kernel
theorem dX12_explores_84 : decode cX12_explores 84 = .ok (.invokevirtual 342, 3) := by decide +kernel
theorem dX12_explores_87 : decode cX12_explores 87 = .ok (.istore 4, 2) := by decide +kernel
theorem dX12_explores_89 : decode cX12_explores 89 = .ok (.aload_n 0, 1) := by decide +kernel
theorem dX12_explores_90 : decode cX12_explores 90 = .ok (.getfield 57, 3) := by decide +kernel
theorem dX12_explores_93 : decode cX12_explores 93 = .ok (.iload 4, 2) := by decide +kernel
theorem dX12_explores_95 : decode cX12_explores 95 = .ok (.baload, 1) := by decide +kernel
theorem dX12_explores_96 : decode cX12_explores 96 = .ok (.ifCond .ne 32, 3) := by decide +kernel
theorem dX12_explores_99 : decode cX12_explores 99 = .ok (.aload_n 0, 1) := by decide +kernel
theorem dX12_explores_100 : decode cX12_explores 100 = .ok (.getfield 57, 3) := by decide +kernel
theorem dX12_explores_103 : decode cX12_explores 103 = .ok (.iload 4, 2) := by decide +kernel
theorem dX12_explores_105 : decode cX12_explores 105 = .ok (.iconst 1, 1) := by decide +kernel
theorem dX12_explores_106 : decode cX12_explores 106 = .ok (.bastore, 1) := by decide +kernel
theorem dX12_explores_107 : decode cX12_explores 107 = .ok (.aload_n 0, 1) := by decide +kernel
theorem dX12_explores_108 : decode cX12_explores 108 = .ok (.getfield 60, 3) := by decide +kernel
theorem dX12_explores_111 : decode cX12_explores 111 = .ok (.aload_n 0, 1) := by decide +kernel
theorem dX12_explores_112 : decode cX12_explores 112 = .ok (.getfield 339, 3) := by decide +kernel
theorem dX12_explores_115 : decode cX12_explores 115 = .ok (.iload 4, 2) := by decide +kernel
theorem dX12_explores_117 : decode cX12_explores 117 = .ok (.iastore, 1) := by decide +kernel
theorem dX12_explores_118 : decode cX12_explores 118 = .ok (.aload_n 0, 1) := by decide +kernel
theorem dX12_explores_119 : decode cX12_explores 119 = .ok (.dup, 1) := by decide +kernel
theorem dX12_explores_120 : decode cX12_explores 120 = .ok (.getfield 339, 3) := by decide +kernel
theorem dX12_explores_123 : decode cX12_explores 123 = .ok (.iconst 1, 1) := by decide +kernel
theorem dX12_explores_124 : decode cX12_explores 124 = .ok (.iadd, 1) := by decide +kernel
theorem dX12_explores_125 : decode cX12_explores 125 = .ok (.putfield 339, 3) := by decide +kernel
theorem dX12_explores_128 : decode cX12_explores 128 = .ok (.aload_n 0, 1) := by decide +kernel
theorem dX12_explores_129 : decode cX12_explores 129 = .ok (.aload_n 0, 1) := by decide +kernel
theorem dX12_explores_130 : decode cX12_explores 130 = .ok (.getfield 60, 3) := by decide +kernel
theorem dX12_explores_133 : decode cX12_explores 133 = .ok (.iload_n 2, 1) := by decide +kernel
theorem dX12_explores_134 : decode cX12_explores 134 = .ok (.iaload, 1) := by decide +kernel
theorem dX12_explores_135 : decode cX12_explores 135 = .ok (.invokevirtual 288, 3) := by decide +kernel
theorem dX12_explores_138 : decode cX12_explores 138 = .ok (.aload_n 0, 1) := by decide +kernel
theorem dX12_explores_139 : decode cX12_explores 139 = .ok (.iload_n 3, 1) := by decide +kernel
theorem dX12_explores_140 : decode cX12_explores 140 = .ok (.iconst 1, 1) := by decide +kernel
theorem dX12_explores_141 : decode cX12_explores 141 = .ok (.iadd, 1) := by decide +kernel
theorem dX12_explores_142 : decode cX12_explores 142 = .ok (.invokevirtual 336, 3) := by decide +kernel
theorem dX12_explores_145 : decode cX12_explores 145 = .ok (.istore_n 3, 1) := by decide +kernel
theorem dX12_explores_146 : decode cX12_explores 146 = .ok (.goto (-73), 3) := by decide +kernel
theorem dX12_explores_149 : decode cX12_explores 149 = .ok (.iinc 2 1, 3) := by decide +kernel
theorem dX12_explores_152 : decode cX12_explores 152 = .ok (.goto (-103), 3) := by decide +kernel
theorem dX12_explores_155 : decode cX12_explores 155 = .ok (.return_, 1) := by decide +kernel
theorem dX12_isSought_0 : decode cX12_isSought 0 = .ok (.aload_n 0, 1) := by decide +kernel
theorem dX12_isSought_1 : decode cX12_isSought 1 = .ok (.getfield 345, 3) := by decide +kernel
theorem dX12_isSought_4 : decode cX12_isSought 4 = .ok (.iconst 1, 1) := by decide +kernel
theorem dX12_isSought_5 : decode cX12_isSought 5 = .ok (.if_icmp .ne 20, 3) := by decide +kernel
theorem dX12_isSought_8 : decode cX12_isSought 8 = .ok (.aload_n 0, 1) := by decide +kernel
theorem dX12_isSought_9 : decode cX12_isSought 9 = .ok (.getfield 238, 3) := by decide +kernel
theorem dX12_isSought_12 : decode cX12_isSought 12 = .ok (.aload_n 0, 1) := by decide +kernel
theorem dX12_isSought_13 : decode cX12_isSought 13 = .ok (.getfield 348, 3) := by decide +kernel
theorem dX12_isSought_16 : decode cX12_isSought 16 = .ok (.if_icmp .ne 7, 3) := by decide +kernel
theorem dX12_isSought_19 : decode cX12_isSought 19 = .ok (.iconst 1, 1) := by decide +kernel
theorem dX12_isSought_20 : decode cX12_isSought 20 = .ok (.goto 4, 3) := by decide +kernel
theorem dX12_isSought_23 : decode cX12_isSought 23 = .ok (.iconst 0, 1) := by decide +kernel
theorem dX12_isSought_24 : decode cX12_isSought 24 = .ok (.ireturn, 1) := by decide +kernel
theorem dX12_isSought_25 : decode cX12_isSought 25 = .ok (.aload_n 0, 1) := by decide +kernel
theorem dX12_isSought_26 : decode cX12_isSought 26 = .ok (.getfield 345, 3) := by decide +kernel
theorem dX12_isSought_29 : decode cX12_isSought 29 = .ok (.iconst 2, 1) := by decide +kernel
theorem dX12_isSought_30 : decode cX12_isSought 30 = .ok (.if_icmp .ne 15, 3) := by decide +kernel
theorem dX12_isSought_33 : decode cX12_isSought 33 = .ok (.aload_n 0, 1) := by decide +kernel
