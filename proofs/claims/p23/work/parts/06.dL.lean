theorem dL_cell_0 : decode cL_cell 0 = .ok (.iload_n 1, 1) := by decide +kernel
theorem dL_cell_1 : decode cL_cell 1 = .ok (.aload_n 0, 1) := by decide +kernel
theorem dL_cell_2 : decode cL_cell 2 = .ok (.arraylength, 1) := by decide +kernel
theorem dL_cell_3 : decode cL_cell 3 = .ok (.if_icmp .ge 9, 3) := by decide +kernel
theorem dL_cell_6 : decode cL_cell 6 = .ok (.aload_n 0, 1) := by decide +kernel
theorem dL_cell_7 : decode cL_cell 7 = .ok (.iload_n 1, 1) := by decide +kernel
theorem dL_cell_8 : decode cL_cell 8 = .ok (.iaload, 1) := by decide +kernel
theorem dL_cell_9 : decode cL_cell 9 = .ok (.goto 9, 3) := by decide +kernel
theorem dL_cell_12 : decode cL_cell 12 = .ok (.ldc 7, 2) := by decide +kernel
theorem dL_cell_14 : decode cL_cell 14 = .ok (.iload_n 1, 1) := by decide +kernel
theorem dL_cell_15 : decode cL_cell 15 = .ok (.iconst 1, 1) := by decide +kernel
theorem dL_cell_16 : decode cL_cell 16 = .ok (.iadd, 1) := by decide +kernel
theorem dL_cell_17 : decode cL_cell 17 = .ok (.imul, 1) := by decide +kernel
theorem dL_cell_18 : decode cL_cell 18 = .ok (.ireturn, 1) := by decide +kernel
theorem dL_at_0 : decode cL_at 0 = .ok (.iload_n 0, 1) := by decide +kernel
theorem dL_at_1 : decode cL_at 1 = .ok (.iconst 1, 1) := by decide +kernel
theorem dL_at_2 : decode cL_at 2 = .ok (.iushr, 1) := by decide +kernel
theorem dL_at_3 : decode cL_at 3 = .ok (.iload_n 1, 1) := by decide +kernel
theorem dL_at_4 : decode cL_at 4 = .ok (.irem, 1) := by decide +kernel
theorem dL_at_5 : decode cL_at 5 = .ok (.ireturn, 1) := by decide +kernel
theorem dL_campText_0 : decode cL_campText 0 = .ok (.iconst 0, 1) := by decide +kernel
theorem dL_campText_1 : decode cL_campText 1 = .ok (.istore 5, 2) := by decide +kernel
theorem dL_campText_3 : decode cL_campText 3 = .ok (.aload_n 2, 1) := by decide +kernel
theorem dL_campText_4 : decode cL_campText 4 = .ok (.iconst 0, 1) := by decide +kernel
theorem dL_campText_5 : decode cL_campText 5 = .ok (.iconst 2, 1) := by decide +kernel
theorem dL_campText_6 : decode cL_campText 6 = .ok (.iload_n 0, 1) := by decide +kernel
theorem dL_campText_7 : decode cL_campText 7 = .ok (.iconst 5, 1) := by decide +kernel
theorem dL_campText_8 : decode cL_campText 8 = .ok (.invokestatic 8, 3) := by decide +kernel
theorem dL_campText_11 : decode cL_campText 11 = .ok (.iadd, 1) := by decide +kernel
theorem dL_campText_12 : decode cL_campText 12 = .ok (.iastore, 1) := by decide +kernel
theorem dL_campText_13 : decode cL_campText 13 = .ok (.iconst 0, 1) := by decide +kernel
theorem dL_campText_14 : decode cL_campText 14 = .ok (.istore 6, 2) := by decide +kernel
theorem dL_campText_16 : decode cL_campText 16 = .ok (.iload 6, 2) := by decide +kernel
theorem dL_campText_18 : decode cL_campText 18 = .ok (.aload_n 2, 1) := by decide +kernel
theorem dL_campText_19 : decode cL_campText 19 = .ok (.iconst 0, 1) := by decide +kernel
theorem dL_campText_20 : decode cL_campText 20 = .ok (.iaload, 1) := by decide +kernel
theorem dL_campText_21 : decode cL_campText 21 = .ok (.if_icmp .ge 96, 3) := by decide +kernel
theorem dL_campText_24 : decode cL_campText 24 = .ok (.aload_n 2, 1) := by decide +kernel
theorem dL_campText_25 : decode cL_campText 25 = .ok (.iconst 1, 1) := by decide +kernel
theorem dL_campText_26 : decode cL_campText 26 = .ok (.iload 6, 2) := by decide +kernel
theorem dL_campText_28 : decode cL_campText 28 = .ok (.iadd, 1) := by decide +kernel
theorem dL_campText_29 : decode cL_campText 29 = .ok (.iload_n 0, 1) := by decide +kernel
theorem dL_campText_30 : decode cL_campText 30 = .ok (.iconst 3, 1) := by decide +kernel
theorem dL_campText_31 : decode cL_campText 31 = .ok (.iconst 3, 1) := by decide +kernel
theorem dL_campText_32 : decode cL_campText 32 = .ok (.iload 6, 2) := by decide +kernel
theorem dL_campText_34 : decode cL_campText 34 = .ok (.imul, 1) := by decide +kernel
theorem dL_campText_35 : decode cL_campText 35 = .ok (.iadd, 1) := by decide +kernel
theorem dL_campText_36 : decode cL_campText 36 = .ok (.ishr, 1) := by decide +kernel
theorem dL_campText_37 : decode cL_campText 37 = .ok (.iconst 5, 1) := by decide +kernel
theorem dL_campText_38 : decode cL_campText 38 = .ok (.invokestatic 8, 3) := by decide +kernel
theorem dL_campText_41 : decode cL_campText 41 = .ok (.iastore, 1) := by decide +kernel
theorem dL_campText_42 : decode cL_campText 42 = .ok (.aload 4, 2) := by decide +kernel
theorem dL_campText_44 : decode cL_campText 44 = .ok (.iload 5, 2) := by decide +kernel
theorem dL_campText_46 : decode cL_campText 46 = .ok (.iinc 5 1, 3) := by decide +kernel
theorem dL_campText_49 : decode cL_campText 49 = .ok (.aload_n 2, 1) := by decide +kernel
theorem dL_campText_50 : decode cL_campText 50 = .ok (.iconst 1, 1) := by decide +kernel
theorem dL_campText_51 : decode cL_campText 51 = .ok (.iload 6, 2) := by decide +kernel
theorem dL_campText_53 : decode cL_campText 53 = .ok (.iadd, 1) := by decide +kernel
theorem dL_campText_54 : decode cL_campText 54 = .ok (.iaload, 1) := by decide +kernel
theorem dL_campText_55 : decode cL_campText 55 = .ok (.ifCond .ne 8, 3) := by decide +kernel
theorem dL_campText_58 : decode cL_campText 58 = .ok (.bipush 109, 2) := by decide +kernel
theorem dL_campText_60 : decode cL_campText 60 = .ok (.goto 50, 3) := by decide +kernel
theorem dL_campText_63 : decode cL_campText 63 = .ok (.aload_n 2, 1) := by decide +kernel
theorem dL_campText_64 : decode cL_campText 64 = .ok (.iconst 1, 1) := by decide +kernel
theorem dL_campText_65 : decode cL_campText 65 = .ok (.iload 6, 2) := by decide +kernel
theorem dL_campText_67 : decode cL_campText 67 = .ok (.iadd, 1) := by decide +kernel
theorem dL_campText_68 : decode cL_campText 68 = .ok (.iaload, 1) := by decide +kernel
theorem dL_campText_69 : decode cL_campText 69 = .ok (.iconst 1, 1) := by decide +kernel
theorem dL_campText_70 : decode cL_campText 70 = .ok (.if_icmp .ne 8, 3) := by decide +kernel
theorem dL_campText_73 : decode cL_campText 73 = .ok (.bipush 112, 2) := by decide +kernel
theorem dL_campText_75 : decode cL_campText 75 = .ok (.goto 35, 3) := by decide +kernel
theorem dL_campText_78 : decode cL_campText 78 = .ok (.aload_n 2, 1) := by decide +kernel
theorem dL_campText_79 : decode cL_campText 79 = .ok (.iconst 1, 1) := by decide +kernel
theorem dL_campText_80 : decode cL_campText 80 = .ok (.iload 6, 2) := by decide +kernel
theorem dL_campText_82 : decode cL_campText 82 = .ok (.iadd, 1) := by decide +kernel
theorem dL_campText_83 : decode cL_campText 83 = .ok (.iaload, 1) := by decide +kernel
theorem dL_campText_84 : decode cL_campText 84 = .ok (.iconst 2, 1) := by decide +kernel
theorem dL_campText_85 : decode cL_campText 85 = .ok (.if_icmp .ne 8, 3) := by decide +kernel
theorem dL_campText_88 : decode cL_campText 88 = .ok (.bipush 100, 2) := by decide +kernel
theorem dL_campText_90 : decode cL_campText 90 = .ok (.goto 20, 3) := by decide +kernel
theorem dL_campText_93 : decode cL_campText 93 = .ok (.aload_n 2, 1) := by decide +kernel
theorem dL_campText_94 : decode cL_campText 94 = .ok (.iconst 1, 1) := by decide +kernel
theorem dL_campText_95 : decode cL_campText 95 = .ok (.iload 6, 2) := by decide +kernel
theorem dL_campText_97 : decode cL_campText 97 = .ok (.iadd, 1) := by decide +kernel
theorem dL_campText_98 : decode cL_campText 98 = .ok (.iaload, 1) := by decide +kernel
theorem dL_campText_99 : decode cL_campText 99 = .ok (.iconst 3, 1) := by decide +kernel
theorem dL_campText_100 : decode cL_campText 100 = .ok (.if_icmp .ne 8, 3) := by decide +kernel
theorem dL_campText_103 : decode cL_campText 103 = .ok (.bipush 98, 2) := by decide +kernel
theorem dL_campText_105 : decode cL_campText 105 = .ok (.goto 5, 3) := by decide +kernel
theorem dL_campText_108 : decode cL_campText 108 = .ok (.bipush 104, 2) := by decide +kernel
theorem dL_campText_110 : decode cL_campText 110 = .ok (.iastore, 1) := by decide +kernel
theorem dL_campText_111 : decode cL_campText 111 = .ok (.iinc 6 1, 3) := by decide +kernel
theorem dL_campText_114 : decode cL_campText 114 = .ok (.goto (-98), 3) := by decide +kernel
theorem dL_campText_117 : decode cL_campText 117 = .ok (.aload 4, 2) := by decide +kernel
theorem dL_campText_119 : decode cL_campText 119 = .ok (.iload 5, 2) := by decide +kernel
theorem dL_campText_121 : decode cL_campText 121 = .ok (.iinc 5 1, 3) := by decide +kernel
theorem dL_campText_124 : decode cL_campText 124 = .ok (.bipush 59, 2) := by decide +kernel
theorem dL_campText_126 : decode cL_campText 126 = .ok (.iastore, 1) := by decide +kernel
theorem dL_campText_127 : decode cL_campText 127 = .ok (.iconst 0, 1) := by decide +kernel
theorem dL_campText_128 : decode cL_campText 128 = .ok (.istore 6, 2) := by decide +kernel
theorem dL_campText_130 : decode cL_campText 130 = .ok (.iload 6, 2) := by decide +kernel
theorem dL_campText_132 : decode cL_campText 132 = .ok (.bipush 9, 2) := by decide +kernel
theorem dL_campText_134 : decode cL_campText 134 = .ok (.if_icmp .ge 14, 3) := by decide +kernel
theorem dL_campText_137 : decode cL_campText 137 = .ok (.aload_n 3, 1) := by decide +kernel
theorem dL_campText_138 : decode cL_campText 138 = .ok (.iload 6, 2) := by decide +kernel
theorem dL_campText_140 : decode cL_campText 140 = .ok (.iconst 0, 1) := by decide +kernel
theorem dL_campText_141 : decode cL_campText 141 = .ok (.iastore, 1) := by decide +kernel
theorem dL_campText_142 : decode cL_campText 142 = .ok (.iinc 6 1, 3) := by decide +kernel
theorem dL_campText_145 : decode cL_campText 145 = .ok (.goto (-15), 3) := by decide +kernel
theorem dL_campText_148 : decode cL_campText 148 = .ok (.iconst 1, 1) := by decide +kernel
theorem dL_campText_149 : decode cL_campText 149 = .ok (.istore 6, 2) := by decide +kernel
theorem dL_campText_151 : decode cL_campText 151 = .ok (.iload 6, 2) := by decide +kernel
theorem dL_campText_153 : decode cL_campText 153 = .ok (.bipush 6, 2) := by decide +kernel
theorem dL_campText_155 : decode cL_campText 155 = .ok (.if_icmp .ge 39, 3) := by decide +kernel
theorem dL_campText_158 : decode cL_campText 158 = .ok (.aload_n 3, 1) := by decide +kernel
theorem dL_campText_159 : decode cL_campText 159 = .ok (.iload 6, 2) := by decide +kernel
theorem dL_campText_161 : decode cL_campText 161 = .ok (.iload_n 1, 1) := by decide +kernel
theorem dL_campText_162 : decode cL_campText 162 = .ok (.iconst 4, 1) := by decide +kernel
theorem dL_campText_163 : decode cL_campText 163 = .ok (.iload 6, 2) := by decide +kernel
theorem dL_campText_165 : decode cL_campText 165 = .ok (.imul, 1) := by decide +kernel
theorem dL_campText_166 : decode cL_campText 166 = .ok (.ishr, 1) := by decide +kernel
theorem dL_campText_167 : decode cL_campText 167 = .ok (.bipush 10, 2) := by decide +kernel
theorem dL_campText_169 : decode cL_campText 169 = .ok (.invokestatic 8, 3) := by decide +kernel
theorem dL_campText_172 : decode cL_campText 172 = .ok (.iastore, 1) := by decide +kernel
theorem dL_campText_173 : decode cL_campText 173 = .ok (.aload 4, 2) := by decide +kernel
theorem dL_campText_175 : decode cL_campText 175 = .ok (.iload 5, 2) := by decide +kernel
theorem dL_campText_177 : decode cL_campText 177 = .ok (.iinc 5 1, 3) := by decide +kernel
theorem dL_campText_180 : decode cL_campText 180 = .ok (.bipush 48, 2) := by decide +kernel
theorem dL_campText_182 : decode cL_campText 182 = .ok (.aload_n 3, 1) := by decide +kernel
theorem dL_campText_183 : decode cL_campText 183 = .ok (.iload 6, 2) := by decide +kernel
theorem dL_campText_185 : decode cL_campText 185 = .ok (.iaload, 1) := by decide +kernel
theorem dL_campText_186 : decode cL_campText 186 = .ok (.iadd, 1) := by decide +kernel
theorem dL_campText_187 : decode cL_campText 187 = .ok (.iastore, 1) := by decide +kernel
theorem dL_campText_188 : decode cL_campText 188 = .ok (.iinc 6 1, 3) := by decide +kernel
theorem dL_campText_191 : decode cL_campText 191 = .ok (.goto (-40), 3) := by decide +kernel
theorem dL_campText_194 : decode cL_campText 194 = .ok (.aload_n 3, 1) := by decide +kernel
theorem dL_campText_195 : decode cL_campText 195 = .ok (.bipush 6, 2) := by decide +kernel
theorem dL_campText_197 : decode cL_campText 197 = .ok (.iconst 1, 1) := by decide +kernel
theorem dL_campText_198 : decode cL_campText 198 = .ok (.aload_n 2, 1) := by decide +kernel
theorem dL_campText_199 : decode cL_campText 199 = .ok (.iconst 0, 1) := by decide +kernel
theorem dL_campText_200 : decode cL_campText 200 = .ok (.iaload, 1) := by decide +kernel
theorem dL_campText_201 : decode cL_campText 201 = .ok (.ishl, 1) := by decide +kernel
theorem dL_campText_202 : decode cL_campText 202 = .ok (.iconst 1, 1) := by decide +kernel
theorem dL_campText_203 : decode cL_campText 203 = .ok (.isub, 1) := by decide +kernel
theorem dL_campText_204 : decode cL_campText 204 = .ok (.iastore, 1) := by decide +kernel
theorem dL_campText_205 : decode cL_campText 205 = .ok (.iload 5, 2) := by decide +kernel
theorem dL_campText_207 : decode cL_campText 207 = .ok (.ireturn, 1) := by decide +kernel
theorem dL_write_0 : decode cL_write 0 = .ok (.iconst 0, 1) := by decide +kernel
theorem dL_write_1 : decode cL_write 1 = .ok (.istore_n 3, 1) := by decide +kernel
theorem dL_write_2 : decode cL_write 2 = .ok (.iload_n 3, 1) := by decide +kernel
theorem dL_write_3 : decode cL_write 3 = .ok (.iload_n 2, 1) := by decide +kernel
theorem dL_write_4 : decode cL_write 4 = .ok (.if_icmp .ge 24, 3) := by decide +kernel
theorem dL_write_7 : decode cL_write 7 = .ok (.aload_n 0, 1) := by decide +kernel
theorem dL_write_8 : decode cL_write 8 = .ok (.aload_n 1, 1) := by decide +kernel
theorem dL_write_9 : decode cL_write 9 = .ok (.iload_n 3, 1) := by decide +kernel
theorem dL_write_10 : decode cL_write 10 = .ok (.iaload, 1) := by decide +kernel
theorem dL_write_11 : decode cL_write 11 = .ok (.invokevirtual 14, 3) := by decide +kernel
theorem dL_write_14 : decode cL_write 14 = .ok (.iload_n 3, 1) := by decide +kernel
theorem dL_write_15 : decode cL_write 15 = .ok (.iconst 1, 1) := by decide +kernel
theorem dL_write_16 : decode cL_write 16 = .ok (.iadd, 1) := by decide +kernel
theorem dL_write_17 : decode cL_write 17 = .ok (.if_icmp .eq 5, 3) := by decide +kernel
theorem dL_write_20 : decode cL_write 20 = .ok (.iconst 0, 1) := by decide +kernel
theorem dL_write_21 : decode cL_write 21 = .ok (.ireturn, 1) := by decide +kernel
theorem dL_write_22 : decode cL_write 22 = .ok (.iinc 3 1, 3) := by decide +kernel
theorem dL_write_25 : decode cL_write 25 = .ok (.goto (-23), 3) := by decide +kernel
theorem dL_write_28 : decode cL_write 28 = .ok (.iconst 1, 1) := by decide +kernel
theorem dL_write_29 : decode cL_write 29 = .ok (.ireturn, 1) := by decide +kernel
theorem dL_in_0 : decode cL_in 0 = .ok (.iload_n 0, 1) := by decide +kernel
theorem dL_in_1 : decode cL_in 1 = .ok (.iload_n 1, 1) := by decide +kernel
theorem dL_in_2 : decode cL_in 2 = .ok (.ishr, 1) := by decide +kernel
theorem dL_in_3 : decode cL_in 3 = .ok (.iconst 1, 1) := by decide +kernel
theorem dL_in_4 : decode cL_in 4 = .ok (.iand, 1) := by decide +kernel
theorem dL_in_5 : decode cL_in 5 = .ok (.iconst 1, 1) := by decide +kernel
theorem dL_in_6 : decode cL_in 6 = .ok (.if_icmp .ne 7, 3) := by decide +kernel
theorem dL_in_9 : decode cL_in 9 = .ok (.iconst 1, 1) := by decide +kernel
theorem dL_in_10 : decode cL_in 10 = .ok (.goto 4, 3) := by decide +kernel
theorem dL_in_13 : decode cL_in 13 = .ok (.iconst 0, 1) := by decide +kernel
theorem dL_in_14 : decode cL_in 14 = .ok (.ireturn, 1) := by decide +kernel
theorem dL_size_0 : decode cL_size 0 = .ok (.iconst 0, 1) := by decide +kernel
theorem dL_size_1 : decode cL_size 1 = .ok (.istore_n 1, 1) := by decide +kernel
theorem dL_size_2 : decode cL_size 2 = .ok (.iconst 0, 1) := by decide +kernel
theorem dL_size_3 : decode cL_size 3 = .ok (.istore_n 2, 1) := by decide +kernel
theorem dL_size_4 : decode cL_size 4 = .ok (.iload_n 2, 1) := by decide +kernel
theorem dL_size_5 : decode cL_size 5 = .ok (.bipush 10, 2) := by decide +kernel
theorem dL_size_7 : decode cL_size 7 = .ok (.if_icmp .ge 17, 3) := by decide +kernel
theorem dL_size_10 : decode cL_size 10 = .ok (.iload_n 1, 1) := by decide +kernel
theorem dL_size_11 : decode cL_size 11 = .ok (.iload_n 0, 1) := by decide +kernel
theorem dL_size_12 : decode cL_size 12 = .ok (.iload_n 2, 1) := by decide +kernel
theorem dL_size_13 : decode cL_size 13 = .ok (.ishr, 1) := by decide +kernel
theorem dL_size_14 : decode cL_size 14 = .ok (.iconst 1, 1) := by decide +kernel
theorem dL_size_15 : decode cL_size 15 = .ok (.iand, 1) := by decide +kernel
theorem dL_size_16 : decode cL_size 16 = .ok (.iadd, 1) := by decide +kernel
theorem dL_size_17 : decode cL_size 17 = .ok (.istore_n 1, 1) := by decide +kernel
theorem dL_size_18 : decode cL_size 18 = .ok (.iinc 2 1, 3) := by decide +kernel
theorem dL_size_21 : decode cL_size 21 = .ok (.goto (-17), 3) := by decide +kernel
theorem dL_size_24 : decode cL_size 24 = .ok (.iload_n 1, 1) := by decide +kernel
theorem dL_size_25 : decode cL_size 25 = .ok (.ireturn, 1) := by decide +kernel
theorem dL_pulls_0 : decode cL_pulls 0 = .ok (.iload_n 0, 1) := by decide +kernel
theorem dL_pulls_1 : decode cL_pulls 1 = .ok (.ifCond .ne 7, 3) := by decide +kernel
theorem dL_pulls_4 : decode cL_pulls 4 = .ok (.iconst 4, 1) := by decide +kernel
theorem dL_pulls_5 : decode cL_pulls 5 = .ok (.goto 23, 3) := by decide +kernel
theorem dL_pulls_8 : decode cL_pulls 8 = .ok (.iload_n 0, 1) := by decide +kernel
theorem dL_pulls_9 : decode cL_pulls 9 = .ok (.iconst 1, 1) := by decide +kernel
theorem dL_pulls_10 : decode cL_pulls 10 = .ok (.if_icmp .ne 8, 3) := by decide +kernel
theorem dL_pulls_13 : decode cL_pulls 13 = .ok (.bipush 8, 2) := by decide +kernel
theorem dL_pulls_15 : decode cL_pulls 15 = .ok (.goto 13, 3) := by decide +kernel
theorem dL_pulls_18 : decode cL_pulls 18 = .ok (.iload_n 0, 1) := by decide +kernel
theorem dL_pulls_19 : decode cL_pulls 19 = .ok (.iconst 4, 1) := by decide +kernel
theorem dL_pulls_20 : decode cL_pulls 20 = .ok (.if_icmp .ne 7, 3) := by decide +kernel
theorem dL_pulls_23 : decode cL_pulls 23 = .ok (.iconst 3, 1) := by decide +kernel
theorem dL_pulls_24 : decode cL_pulls 24 = .ok (.goto 4, 3) := by decide +kernel
theorem dL_pulls_27 : decode cL_pulls 27 = .ok (.iconst 2, 1) := by decide +kernel
theorem dL_pulls_28 : decode cL_pulls 28 = .ok (.ireturn, 1) := by decide +kernel
theorem dL_feeds_0 : decode cL_feeds 0 = .ok (.iload_n 0, 1) := by decide +kernel
theorem dL_feeds_1 : decode cL_feeds 1 = .ok (.iconst 1, 1) := by decide +kernel
theorem dL_feeds_2 : decode cL_feeds 2 = .ok (.if_icmp .ne 8, 3) := by decide +kernel
theorem dL_feeds_5 : decode cL_feeds 5 = .ok (.bipush 6, 2) := by decide +kernel
theorem dL_feeds_7 : decode cL_feeds 7 = .ok (.goto 22, 3) := by decide +kernel
theorem dL_feeds_10 : decode cL_feeds 10 = .ok (.iload_n 0, 1) := by decide +kernel
theorem dL_feeds_11 : decode cL_feeds 11 = .ok (.iconst 2, 1) := by decide +kernel
theorem dL_feeds_12 : decode cL_feeds 12 = .ok (.if_icmp .ne 7, 3) := by decide +kernel
theorem dL_feeds_15 : decode cL_feeds 15 = .ok (.iconst 2, 1) := by decide +kernel
theorem dL_feeds_16 : decode cL_feeds 16 = .ok (.goto 13, 3) := by decide +kernel
theorem dL_feeds_19 : decode cL_feeds 19 = .ok (.iload_n 0, 1) := by decide +kernel
theorem dL_feeds_20 : decode cL_feeds 20 = .ok (.iconst 4, 1) := by decide +kernel
theorem dL_feeds_21 : decode cL_feeds 21 = .ok (.if_icmp .ne 7, 3) := by decide +kernel
theorem dL_feeds_24 : decode cL_feeds 24 = .ok (.iconst 3, 1) := by decide +kernel
theorem dL_feeds_25 : decode cL_feeds 25 = .ok (.goto 4, 3) := by decide +kernel
theorem dL_feeds_28 : decode cL_feeds 28 = .ok (.iconst 0, 1) := by decide +kernel
theorem dL_feeds_29 : decode cL_feeds 29 = .ok (.ireturn, 1) := by decide +kernel
theorem dL_sum_0 : decode cL_sum 0 = .ok (.iconst 0, 1) := by decide +kernel
theorem dL_sum_1 : decode cL_sum 1 = .ok (.istore_n 3, 1) := by decide +kernel
theorem dL_sum_2 : decode cL_sum 2 = .ok (.iconst 0, 1) := by decide +kernel
theorem dL_sum_3 : decode cL_sum 3 = .ok (.istore 4, 2) := by decide +kernel
theorem dL_sum_5 : decode cL_sum 5 = .ok (.iload 4, 2) := by decide +kernel
theorem dL_sum_7 : decode cL_sum 7 = .ok (.aload_n 0, 1) := by decide +kernel
theorem dL_sum_8 : decode cL_sum 8 = .ok (.iconst 0, 1) := by decide +kernel
theorem dL_sum_9 : decode cL_sum 9 = .ok (.iaload, 1) := by decide +kernel
theorem dL_sum_10 : decode cL_sum 10 = .ok (.if_icmp .ge 52, 3) := by decide +kernel
theorem dL_sum_13 : decode cL_sum 13 = .ok (.iload_n 1, 1) := by decide +kernel
theorem dL_sum_14 : decode cL_sum 14 = .ok (.iload 4, 2) := by decide +kernel
theorem dL_sum_16 : decode cL_sum 16 = .ok (.invokestatic 20, 3) := by decide +kernel
theorem dL_sum_19 : decode cL_sum 19 = .ok (.ifCond .eq 37, 3) := by decide +kernel
theorem dL_sum_22 : decode cL_sum 22 = .ok (.iload_n 3, 1) := by decide +kernel
theorem dL_sum_23 : decode cL_sum 23 = .ok (.iload_n 2, 1) := by decide +kernel
theorem dL_sum_24 : decode cL_sum 24 = .ok (.ifCond .ne 15, 3) := by decide +kernel
theorem dL_sum_27 : decode cL_sum 27 = .ok (.aload_n 0, 1) := by decide +kernel
theorem dL_sum_28 : decode cL_sum 28 = .ok (.iconst 1, 1) := by decide +kernel
theorem dL_sum_29 : decode cL_sum 29 = .ok (.iload 4, 2) := by decide +kernel
theorem dL_sum_31 : decode cL_sum 31 = .ok (.iadd, 1) := by decide +kernel
theorem dL_sum_32 : decode cL_sum 32 = .ok (.iaload, 1) := by decide +kernel
theorem dL_sum_33 : decode cL_sum 33 = .ok (.invokestatic 24, 3) := by decide +kernel
theorem dL_sum_36 : decode cL_sum 36 = .ok (.goto 18, 3) := by decide +kernel
theorem dL_sum_39 : decode cL_sum 39 = .ok (.aload_n 0, 1) := by decide +kernel
theorem dL_sum_40 : decode cL_sum 40 = .ok (.iconst 1, 1) := by decide +kernel
theorem dL_sum_41 : decode cL_sum 41 = .ok (.iload 4, 2) := by decide +kernel
theorem dL_sum_43 : decode cL_sum 43 = .ok (.iadd, 1) := by decide +kernel
theorem dL_sum_44 : decode cL_sum 44 = .ok (.iaload, 1) := by decide +kernel
theorem dL_sum_45 : decode cL_sum 45 = .ok (.iconst 1, 1) := by decide +kernel
theorem dL_sum_46 : decode cL_sum 46 = .ok (.if_icmp .ne 7, 3) := by decide +kernel
theorem dL_sum_49 : decode cL_sum 49 = .ok (.iconst 2, 1) := by decide +kernel
theorem dL_sum_50 : decode cL_sum 50 = .ok (.goto 4, 3) := by decide +kernel
theorem dL_sum_53 : decode cL_sum 53 = .ok (.iconst 1, 1) := by decide +kernel
theorem dL_sum_54 : decode cL_sum 54 = .ok (.iadd, 1) := by decide +kernel
theorem dL_sum_55 : decode cL_sum 55 = .ok (.istore_n 3, 1) := by decide +kernel
theorem dL_sum_56 : decode cL_sum 56 = .ok (.iinc 4 1, 3) := by decide +kernel
theorem dL_sum_59 : decode cL_sum 59 = .ok (.goto (-54), 3) := by decide +kernel
theorem dL_sum_62 : decode cL_sum 62 = .ok (.iload_n 3, 1) := by decide +kernel
theorem dL_sum_63 : decode cL_sum 63 = .ok (.ireturn, 1) := by decide +kernel
theorem dL_march_0 : decode cL_march 0 = .ok (.aload_n 2, 1) := by decide +kernel
theorem dL_march_1 : decode cL_march 1 = .ok (.iconst 0, 1) := by decide +kernel
theorem dL_march_2 : decode cL_march 2 = .ok (.iload_n 3, 1) := by decide +kernel
theorem dL_march_3 : decode cL_march 3 = .ok (.iastore, 1) := by decide +kernel
theorem dL_march_4 : decode cL_march 4 = .ok (.aload_n 2, 1) := by decide +kernel
theorem dL_march_5 : decode cL_march 5 = .ok (.iconst 1, 1) := by decide +kernel
theorem dL_march_6 : decode cL_march 6 = .ok (.iload 5, 2) := by decide +kernel
theorem dL_march_8 : decode cL_march 8 = .ok (.aload_n 0, 1) := by decide +kernel
theorem dL_march_9 : decode cL_march 9 = .ok (.iload_n 3, 1) := by decide +kernel
theorem dL_march_10 : decode cL_march 10 = .ok (.iconst 0, 1) := by decide +kernel
theorem dL_march_11 : decode cL_march 11 = .ok (.invokestatic 27, 3) := by decide +kernel
theorem dL_march_14 : decode cL_march 14 = .ok (.if_icmp .ge 8, 3) := by decide +kernel
theorem dL_march_17 : decode cL_march 17 = .ok (.iload 5, 2) := by decide +kernel
theorem dL_march_19 : decode cL_march 19 = .ok (.goto 9, 3) := by decide +kernel
theorem dL_march_22 : decode cL_march 22 = .ok (.aload_n 0, 1) := by decide +kernel
theorem dL_march_23 : decode cL_march 23 = .ok (.iload_n 3, 1) := by decide +kernel
theorem dL_march_24 : decode cL_march 24 = .ok (.iconst 0, 1) := by decide +kernel
theorem dL_march_25 : decode cL_march 25 = .ok (.invokestatic 27, 3) := by decide +kernel
theorem dL_march_28 : decode cL_march 28 = .ok (.iastore, 1) := by decide +kernel
theorem dL_march_29 : decode cL_march 29 = .ok (.aload_n 2, 1) := by decide +kernel
theorem dL_march_30 : decode cL_march 30 = .ok (.iconst 2, 1) := by decide +kernel
theorem dL_march_31 : decode cL_march 31 = .ok (.iconst 0, 1) := by decide +kernel
theorem dL_march_32 : decode cL_march 32 = .ok (.iastore, 1) := by decide +kernel
theorem dL_march_33 : decode cL_march 33 = .ok (.iconst 1, 1) := by decide +kernel
theorem dL_march_34 : decode cL_march 34 = .ok (.istore 6, 2) := by decide +kernel
theorem dL_march_36 : decode cL_march 36 = .ok (.iload 6, 2) := by decide +kernel
theorem dL_march_38 : decode cL_march 38 = .ok (.iconst 2, 1) := by decide +kernel
theorem dL_march_39 : decode cL_march 39 = .ok (.iload 4, 2) := by decide +kernel
theorem dL_march_41 : decode cL_march 41 = .ok (.imul, 1) := by decide +kernel
theorem dL_march_42 : decode cL_march 42 = .ok (.if_icmp .gt 298, 3) := by decide +kernel
theorem dL_march_45 : decode cL_march 45 = .ok (.iconst 0, 1) := by decide +kernel
theorem dL_march_46 : decode cL_march 46 = .ok (.istore 7, 2) := by decide +kernel
theorem dL_march_48 : decode cL_march 48 = .ok (.iload 7, 2) := by decide +kernel
theorem dL_march_50 : decode cL_march 50 = .ok (.iconst 2, 1) := by decide +kernel
theorem dL_march_51 : decode cL_march 51 = .ok (.if_icmp .ge 165, 3) := by decide +kernel
theorem dL_march_54 : decode cL_march 54 = .ok (.aload_n 0, 1) := by decide +kernel
theorem dL_march_55 : decode cL_march 55 = .ok (.iconst 0, 1) := by decide +kernel
theorem dL_march_56 : decode cL_march 56 = .ok (.iaload, 1) := by decide +kernel
theorem dL_march_57 : decode cL_march 57 = .ok (.iconst 1, 1) := by decide +kernel
theorem dL_march_58 : decode cL_march 58 = .ok (.isub, 1) := by decide +kernel
theorem dL_march_59 : decode cL_march 59 = .ok (.istore 8, 2) := by decide +kernel
theorem dL_march_61 : decode cL_march 61 = .ok (.iload 8, 2) := by decide +kernel
theorem dL_march_63 : decode cL_march 63 = .ok (.ifCond .lt 147, 3) := by decide +kernel
theorem dL_march_66 : decode cL_march 66 = .ok (.iload 7, 2) := by decide +kernel
theorem dL_march_68 : decode cL_march 68 = .ok (.ifCond .ne 34, 3) := by decide +kernel
theorem dL_march_71 : decode cL_march 71 = .ok (.iload 6, 2) := by decide +kernel
theorem dL_march_73 : decode cL_march 73 = .ok (.iconst 3, 1) := by decide +kernel
theorem dL_march_74 : decode cL_march 74 = .ok (.if_icmp .le 24, 3) := by decide +kernel
theorem dL_march_77 : decode cL_march 77 = .ok (.iload 6, 2) := by decide +kernel
theorem dL_march_79 : decode cL_march 79 = .ok (.iload 4, 2) := by decide +kernel
theorem dL_march_81 : decode cL_march 81 = .ok (.if_icmp .gt 17, 3) := by decide +kernel
theorem dL_march_84 : decode cL_march 84 = .ok (.aload_n 0, 1) := by decide +kernel
theorem dL_march_85 : decode cL_march 85 = .ok (.iconst 1, 1) := by decide +kernel
theorem dL_march_86 : decode cL_march 86 = .ok (.iload 8, 2) := by decide +kernel
theorem dL_march_88 : decode cL_march 88 = .ok (.iadd, 1) := by decide +kernel
theorem dL_march_89 : decode cL_march 89 = .ok (.iaload, 1) := by decide +kernel
theorem dL_march_90 : decode cL_march 90 = .ok (.iconst 1, 1) := by decide +kernel
theorem dL_march_91 : decode cL_march 91 = .ok (.if_icmp .ne 7, 3) := by decide +kernel
theorem dL_march_94 : decode cL_march 94 = .ok (.iconst 1, 1) := by decide +kernel
theorem dL_march_95 : decode cL_march 95 = .ok (.goto 38, 3) := by decide +kernel
theorem dL_march_98 : decode cL_march 98 = .ok (.iconst 0, 1) := by decide +kernel
theorem dL_march_99 : decode cL_march 99 = .ok (.goto 34, 3) := by decide +kernel
theorem dL_march_102 : decode cL_march 102 = .ok (.aload_n 0, 1) := by decide +kernel
theorem dL_march_103 : decode cL_march 103 = .ok (.iconst 1, 1) := by decide +kernel
theorem dL_march_104 : decode cL_march 104 = .ok (.iload 8, 2) := by decide +kernel
theorem dL_march_106 : decode cL_march 106 = .ok (.iadd, 1) := by decide +kernel
theorem dL_march_107 : decode cL_march 107 = .ok (.iaload, 1) := by decide +kernel
theorem dL_march_108 : decode cL_march 108 = .ok (.invokestatic 31, 3) := by decide +kernel
theorem dL_march_111 : decode cL_march 111 = .ok (.ifCond .le 21, 3) := by decide +kernel
theorem dL_march_114 : decode cL_march 114 = .ok (.aload_n 2, 1) := by decide +kernel
theorem dL_march_115 : decode cL_march 115 = .ok (.iconst 1, 1) := by decide +kernel
theorem dL_march_116 : decode cL_march 116 = .ok (.iaload, 1) := by decide +kernel
theorem dL_march_117 : decode cL_march 117 = .ok (.aload_n 0, 1) := by decide +kernel
theorem dL_march_118 : decode cL_march 118 = .ok (.aload_n 2, 1) := by decide +kernel
theorem dL_march_119 : decode cL_march 119 = .ok (.iconst 0, 1) := by decide +kernel
theorem dL_march_120 : decode cL_march 120 = .ok (.iaload, 1) := by decide +kernel
theorem dL_march_121 : decode cL_march 121 = .ok (.iconst 1, 1) := by decide +kernel
theorem dL_march_122 : decode cL_march 122 = .ok (.invokestatic 27, 3) := by decide +kernel
theorem dL_march_125 : decode cL_march 125 = .ok (.if_icmp .ge 7, 3) := by decide +kernel
theorem dL_march_128 : decode cL_march 128 = .ok (.iconst 1, 1) := by decide +kernel
theorem dL_march_129 : decode cL_march 129 = .ok (.goto 4, 3) := by decide +kernel
theorem dL_march_132 : decode cL_march 132 = .ok (.iconst 0, 1) := by decide +kernel
theorem dL_march_133 : decode cL_march 133 = .ok (.istore 9, 2) := by decide +kernel
theorem dL_march_135 : decode cL_march 135 = .ok (.aload_n 2, 1) := by decide +kernel
theorem dL_march_136 : decode cL_march 136 = .ok (.iconst 0, 1) := by decide +kernel
theorem dL_march_137 : decode cL_march 137 = .ok (.iaload, 1) := by decide +kernel
theorem dL_march_138 : decode cL_march 138 = .ok (.iload 8, 2) := by decide +kernel
theorem dL_march_140 : decode cL_march 140 = .ok (.invokestatic 20, 3) := by decide +kernel
theorem dL_march_143 : decode cL_march 143 = .ok (.ifCond .eq 61, 3) := by decide +kernel
theorem dL_march_146 : decode cL_march 146 = .ok (.iload 9, 2) := by decide +kernel
theorem dL_march_148 : decode cL_march 148 = .ok (.ifCond .ne 6, 3) := by decide +kernel
theorem dL_march_151 : decode cL_march 151 = .ok (.goto 53, 3) := by decide +kernel
theorem dL_march_154 : decode cL_march 154 = .ok (.aload_n 2, 1) := by decide +kernel
theorem dL_march_155 : decode cL_march 155 = .ok (.iconst 0, 1) := by decide +kernel
theorem dL_march_156 : decode cL_march 156 = .ok (.dup2, 1) := by decide +kernel
theorem dL_march_157 : decode cL_march 157 = .ok (.iaload, 1) := by decide +kernel
theorem dL_march_158 : decode cL_march 158 = .ok (.iconst 1, 1) := by decide +kernel
theorem dL_march_159 : decode cL_march 159 = .ok (.iload 8, 2) := by decide +kernel
theorem dL_march_161 : decode cL_march 161 = .ok (.ishl, 1) := by decide +kernel
theorem dL_march_162 : decode cL_march 162 = .ok (.isub, 1) := by decide +kernel
theorem dL_march_163 : decode cL_march 163 = .ok (.iastore, 1) := by decide +kernel
theorem dL_march_164 : decode cL_march 164 = .ok (.aload_n 2, 1) := by decide +kernel
theorem dL_march_165 : decode cL_march 165 = .ok (.iconst 1, 1) := by decide +kernel
theorem dL_march_166 : decode cL_march 166 = .ok (.dup2, 1) := by decide +kernel
theorem dL_march_167 : decode cL_march 167 = .ok (.iaload, 1) := by decide +kernel
theorem dL_march_168 : decode cL_march 168 = .ok (.aload_n 0, 1) := by decide +kernel
theorem dL_march_169 : decode cL_march 169 = .ok (.iconst 1, 1) := by decide +kernel
theorem dL_march_170 : decode cL_march 170 = .ok (.iload 8, 2) := by decide +kernel
theorem dL_march_172 : decode cL_march 172 = .ok (.iadd, 1) := by decide +kernel
theorem dL_march_173 : decode cL_march 173 = .ok (.iaload, 1) := by decide +kernel
theorem dL_march_174 : decode cL_march 174 = .ok (.invokestatic 31, 3) := by decide +kernel
theorem dL_march_177 : decode cL_march 177 = .ok (.iadd, 1) := by decide +kernel
theorem dL_march_178 : decode cL_march 178 = .ok (.iastore, 1) := by decide +kernel
theorem dL_march_179 : decode cL_march 179 = .ok (.aload_n 2, 1) := by decide +kernel
theorem dL_march_180 : decode cL_march 180 = .ok (.iconst 1, 1) := by decide +kernel
theorem dL_march_181 : decode cL_march 181 = .ok (.iaload, 1) := by decide +kernel
theorem dL_march_182 : decode cL_march 182 = .ok (.aload_n 0, 1) := by decide +kernel
theorem dL_march_183 : decode cL_march 183 = .ok (.aload_n 2, 1) := by decide +kernel
theorem dL_march_184 : decode cL_march 184 = .ok (.iconst 0, 1) := by decide +kernel
theorem dL_march_185 : decode cL_march 185 = .ok (.iaload, 1) := by decide +kernel
theorem dL_march_186 : decode cL_march 186 = .ok (.iconst 0, 1) := by decide +kernel
theorem dL_march_187 : decode cL_march 187 = .ok (.invokestatic 27, 3) := by decide +kernel
theorem dL_march_190 : decode cL_march 190 = .ok (.if_icmp .le 14, 3) := by decide +kernel
theorem dL_march_193 : decode cL_march 193 = .ok (.aload_n 2, 1) := by decide +kernel
theorem dL_march_194 : decode cL_march 194 = .ok (.iconst 1, 1) := by decide +kernel
theorem dL_march_195 : decode cL_march 195 = .ok (.aload_n 0, 1) := by decide +kernel
theorem dL_march_196 : decode cL_march 196 = .ok (.aload_n 2, 1) := by decide +kernel
theorem dL_march_197 : decode cL_march 197 = .ok (.iconst 0, 1) := by decide +kernel
theorem dL_march_198 : decode cL_march 198 = .ok (.iaload, 1) := by decide +kernel
theorem dL_march_199 : decode cL_march 199 = .ok (.iconst 0, 1) := by decide +kernel
theorem dL_march_200 : decode cL_march 200 = .ok (.invokestatic 27, 3) := by decide +kernel
theorem dL_march_203 : decode cL_march 203 = .ok (.iastore, 1) := by decide +kernel
theorem dL_march_204 : decode cL_march 204 = .ok (.iinc 8 (-1), 3) := by decide +kernel
theorem dL_march_207 : decode cL_march 207 = .ok (.goto (-146), 3) := by decide +kernel
theorem dL_march_210 : decode cL_march 210 = .ok (.iinc 7 1, 3) := by decide +kernel
theorem dL_march_213 : decode cL_march 213 = .ok (.goto (-165), 3) := by decide +kernel
theorem dL_march_216 : decode cL_march 216 = .ok (.aload_n 2, 1) := by decide +kernel
theorem dL_march_217 : decode cL_march 217 = .ok (.iconst 0, 1) := by decide +kernel
theorem dL_march_218 : decode cL_march 218 = .ok (.iaload, 1) := by decide +kernel
theorem dL_march_219 : decode cL_march 219 = .ok (.ifCond .eq 17, 3) := by decide +kernel
theorem dL_march_222 : decode cL_march 222 = .ok (.aload_n 2, 1) := by decide +kernel
theorem dL_march_223 : decode cL_march 223 = .ok (.iconst 1, 1) := by decide +kernel
theorem dL_march_224 : decode cL_march 224 = .ok (.iaload, 1) := by decide +kernel
theorem dL_march_225 : decode cL_march 225 = .ok (.aload_n 0, 1) := by decide +kernel
theorem dL_march_226 : decode cL_march 226 = .ok (.aload_n 2, 1) := by decide +kernel
theorem dL_march_227 : decode cL_march 227 = .ok (.iconst 0, 1) := by decide +kernel
theorem dL_march_228 : decode cL_march 228 = .ok (.iaload, 1) := by decide +kernel
theorem dL_march_229 : decode cL_march 229 = .ok (.iconst 1, 1) := by decide +kernel
theorem dL_march_230 : decode cL_march 230 = .ok (.invokestatic 27, 3) := by decide +kernel
theorem dL_march_233 : decode cL_march 233 = .ok (.if_icmp .ge 17, 3) := by decide +kernel
theorem dL_march_236 : decode cL_march 236 = .ok (.aload_n 2, 1) := by decide +kernel
theorem dL_march_237 : decode cL_march 237 = .ok (.iconst 0, 1) := by decide +kernel
theorem dL_march_238 : decode cL_march 238 = .ok (.iconst 0, 1) := by decide +kernel
theorem dL_march_239 : decode cL_march 239 = .ok (.iastore, 1) := by decide +kernel
theorem dL_march_240 : decode cL_march 240 = .ok (.aload_n 2, 1) := by decide +kernel
theorem dL_march_241 : decode cL_march 241 = .ok (.iconst 1, 1) := by decide +kernel
theorem dL_march_242 : decode cL_march 242 = .ok (.iconst 0, 1) := by decide +kernel
theorem dL_march_243 : decode cL_march 243 = .ok (.iastore, 1) := by decide +kernel
theorem dL_march_244 : decode cL_march 244 = .ok (.aload_n 2, 1) := by decide +kernel
theorem dL_march_245 : decode cL_march 245 = .ok (.iconst 2, 1) := by decide +kernel
theorem dL_march_246 : decode cL_march 246 = .ok (.iload 6, 2) := by decide +kernel
theorem dL_march_248 : decode cL_march 248 = .ok (.iastore, 1) := by decide +kernel
theorem dL_march_249 : decode cL_march 249 = .ok (.return_, 1) := by decide +kernel
theorem dL_march_250 : decode cL_march 250 = .ok (.aload_n 2, 1) := by decide +kernel
theorem dL_march_251 : decode cL_march 251 = .ok (.iconst 1, 1) := by decide +kernel
theorem dL_march_252 : decode cL_march 252 = .ok (.dup2, 1) := by decide +kernel
theorem dL_march_253 : decode cL_march 253 = .ok (.iaload, 1) := by decide +kernel
theorem dL_march_254 : decode cL_march 254 = .ok (.aload_n 0, 1) := by decide +kernel
theorem dL_march_255 : decode cL_march 255 = .ok (.aload_n 2, 1) := by decide +kernel
theorem dL_march_256 : decode cL_march 256 = .ok (.iconst 0, 1) := by decide +kernel
theorem dL_march_257 : decode cL_march 257 = .ok (.iaload, 1) := by decide +kernel
theorem dL_march_258 : decode cL_march 258 = .ok (.iconst 1, 1) := by decide +kernel
theorem dL_march_259 : decode cL_march 259 = .ok (.invokestatic 27, 3) := by decide +kernel
theorem dL_march_262 : decode cL_march 262 = .ok (.isub, 1) := by decide +kernel
theorem dL_march_263 : decode cL_march 263 = .ok (.iastore, 1) := by decide +kernel
theorem dL_march_264 : decode cL_march 264 = .ok (.iconst 2, 1) := by decide +kernel
theorem dL_march_265 : decode cL_march 265 = .ok (.iload 4, 2) := by decide +kernel
theorem dL_march_267 : decode cL_march 267 = .ok (.imul, 1) := by decide +kernel
theorem dL_march_268 : decode cL_march 268 = .ok (.iload 6, 2) := by decide +kernel
theorem dL_march_270 : decode cL_march 270 = .ok (.isub, 1) := by decide +kernel
theorem dL_march_271 : decode cL_march 271 = .ok (.istore 7, 2) := by decide +kernel
theorem dL_march_273 : decode cL_march 273 = .ok (.iload 6, 2) := by decide +kernel
theorem dL_march_275 : decode cL_march 275 = .ok (.iload 4, 2) := by decide +kernel
theorem dL_march_277 : decode cL_march 277 = .ok (.if_icmp .le 57, 3) := by decide +kernel
theorem dL_march_280 : decode cL_march 280 = .ok (.iload 7, 2) := by decide +kernel
theorem dL_march_282 : decode cL_march 282 = .ok (.ifCond .ne 6, 3) := by decide +kernel
theorem dL_march_285 : decode cL_march 285 = .ok (.goto 49, 3) := by decide +kernel
theorem dL_march_288 : decode cL_march 288 = .ok (.aload_n 0, 1) := by decide +kernel
theorem dL_march_289 : decode cL_march 289 = .ok (.aload_n 2, 1) := by decide +kernel
theorem dL_march_290 : decode cL_march 290 = .ok (.iconst 0, 1) := by decide +kernel
theorem dL_march_291 : decode cL_march 291 = .ok (.iaload, 1) := by decide +kernel
theorem dL_march_292 : decode cL_march 292 = .ok (.iconst 0, 1) := by decide +kernel
theorem dL_march_293 : decode cL_march 293 = .ok (.invokestatic 27, 3) := by decide +kernel
theorem dL_march_296 : decode cL_march 296 = .ok (.aload_n 2, 1) := by decide +kernel
theorem dL_march_297 : decode cL_march 297 = .ok (.iconst 1, 1) := by decide +kernel
theorem dL_march_298 : decode cL_march 298 = .ok (.iaload, 1) := by decide +kernel
theorem dL_march_299 : decode cL_march 299 = .ok (.isub, 1) := by decide +kernel
theorem dL_march_300 : decode cL_march 300 = .ok (.istore 8, 2) := by decide +kernel
theorem dL_march_302 : decode cL_march 302 = .ok (.iload 8, 2) := by decide +kernel
theorem dL_march_304 : decode cL_march 304 = .ok (.aload_n 1, 1) := by decide +kernel
theorem dL_march_305 : decode cL_march 305 = .ok (.iload 7, 2) := by decide +kernel
theorem dL_march_307 : decode cL_march 307 = .ok (.iaload, 1) := by decide +kernel
theorem dL_march_308 : decode cL_march 308 = .ok (.if_icmp .le 9, 3) := by decide +kernel
theorem dL_march_311 : decode cL_march 311 = .ok (.aload_n 1, 1) := by decide +kernel
theorem dL_march_312 : decode cL_march 312 = .ok (.iload 7, 2) := by decide +kernel
theorem dL_march_314 : decode cL_march 314 = .ok (.iaload, 1) := by decide +kernel
theorem dL_march_315 : decode cL_march 315 = .ok (.istore 8, 2) := by decide +kernel
theorem dL_march_317 : decode cL_march 317 = .ok (.aload_n 1, 1) := by decide +kernel
theorem dL_march_318 : decode cL_march 318 = .ok (.iload 7, 2) := by decide +kernel
theorem dL_march_320 : decode cL_march 320 = .ok (.dup2, 1) := by decide +kernel
theorem dL_march_321 : decode cL_march 321 = .ok (.iaload, 1) := by decide +kernel
theorem dL_march_322 : decode cL_march 322 = .ok (.iload 8, 2) := by decide +kernel
theorem dL_march_324 : decode cL_march 324 = .ok (.isub, 1) := by decide +kernel
theorem dL_march_325 : decode cL_march 325 = .ok (.iastore, 1) := by decide +kernel
theorem dL_march_326 : decode cL_march 326 = .ok (.aload_n 2, 1) := by decide +kernel
theorem dL_march_327 : decode cL_march 327 = .ok (.iconst 1, 1) := by decide +kernel
theorem dL_march_328 : decode cL_march 328 = .ok (.dup2, 1) := by decide +kernel
theorem dL_march_329 : decode cL_march 329 = .ok (.iaload, 1) := by decide +kernel
theorem dL_march_330 : decode cL_march 330 = .ok (.iload 8, 2) := by decide +kernel
theorem dL_march_332 : decode cL_march 332 = .ok (.iadd, 1) := by decide +kernel
theorem dL_march_333 : decode cL_march 333 = .ok (.iastore, 1) := by decide +kernel
theorem dL_march_334 : decode cL_march 334 = .ok (.iinc 6 1, 3) := by decide +kernel
theorem dL_march_337 : decode cL_march 337 = .ok (.goto (-301), 3) := by decide +kernel
theorem dL_march_340 : decode cL_march 340 = .ok (.return_, 1) := by decide +kernel
theorem dL_lying_0 : decode cL_lying 0 = .ok (.aload_n 0, 1) := by decide +kernel
theorem dL_lying_1 : decode cL_lying 1 = .ok (.iconst 1, 1) := by decide +kernel
theorem dL_lying_2 : decode cL_lying 2 = .ok (.iaload, 1) := by decide +kernel
theorem dL_lying_3 : decode cL_lying 3 = .ok (.aload_n 0, 1) := by decide +kernel
theorem dL_lying_4 : decode cL_lying 4 = .ok (.iconst 2, 1) := by decide +kernel
theorem dL_lying_5 : decode cL_lying 5 = .ok (.iaload, 1) := by decide +kernel
theorem dL_lying_6 : decode cL_lying 6 = .ok (.iadd, 1) := by decide +kernel
theorem dL_lying_7 : decode cL_lying 7 = .ok (.aload_n 0, 1) := by decide +kernel
theorem dL_lying_8 : decode cL_lying 8 = .ok (.iconst 3, 1) := by decide +kernel
theorem dL_lying_9 : decode cL_lying 9 = .ok (.iaload, 1) := by decide +kernel
theorem dL_lying_10 : decode cL_lying 10 = .ok (.iadd, 1) := by decide +kernel
theorem dL_lying_11 : decode cL_lying 11 = .ok (.aload_n 0, 1) := by decide +kernel
theorem dL_lying_12 : decode cL_lying 12 = .ok (.iconst 4, 1) := by decide +kernel
theorem dL_lying_13 : decode cL_lying 13 = .ok (.iaload, 1) := by decide +kernel
theorem dL_lying_14 : decode cL_lying 14 = .ok (.iadd, 1) := by decide +kernel
theorem dL_lying_15 : decode cL_lying 15 = .ok (.aload_n 0, 1) := by decide +kernel
theorem dL_lying_16 : decode cL_lying 16 = .ok (.iconst 5, 1) := by decide +kernel
theorem dL_lying_17 : decode cL_lying 17 = .ok (.iaload, 1) := by decide +kernel
theorem dL_lying_18 : decode cL_lying 18 = .ok (.iadd, 1) := by decide +kernel
theorem dL_lying_19 : decode cL_lying 19 = .ok (.ireturn, 1) := by decide +kernel
theorem dL_over_0 : decode cL_over 0 = .ok (.iconst 0, 1) := by decide +kernel
theorem dL_over_1 : decode cL_over 1 = .ok (.istore_n 2, 1) := by decide +kernel
theorem dL_over_2 : decode cL_over 2 = .ok (.iload_n 2, 1) := by decide +kernel
theorem dL_over_3 : decode cL_over 3 = .ok (.bipush 9, 2) := by decide +kernel
theorem dL_over_5 : decode cL_over 5 = .ok (.if_icmp .ge 15, 3) := by decide +kernel
theorem dL_over_8 : decode cL_over 8 = .ok (.aload_n 0, 1) := by decide +kernel
theorem dL_over_9 : decode cL_over 9 = .ok (.iload_n 2, 1) := by decide +kernel
theorem dL_over_10 : decode cL_over 10 = .ok (.aload_n 1, 1) := by decide +kernel
theorem dL_over_11 : decode cL_over 11 = .ok (.iload_n 2, 1) := by decide +kernel
theorem dL_over_12 : decode cL_over 12 = .ok (.iaload, 1) := by decide +kernel
theorem dL_over_13 : decode cL_over 13 = .ok (.iastore, 1) := by decide +kernel
theorem dL_over_14 : decode cL_over 14 = .ok (.iinc 2 1, 3) := by decide +kernel
theorem dL_over_17 : decode cL_over 17 = .ok (.goto (-15), 3) := by decide +kernel
theorem dL_over_20 : decode cL_over 20 = .ok (.return_, 1) := by decide +kernel
theorem dL_home_0 : decode cL_home 0 = .ok (.aload_n 2, 1) := by decide +kernel
theorem dL_home_1 : decode cL_home 1 = .ok (.aload_n 1, 1) := by decide +kernel
theorem dL_home_2 : decode cL_home 2 = .ok (.invokestatic 34, 3) := by decide +kernel
theorem dL_home_5 : decode cL_home 5 = .ok (.aload_n 0, 1) := by decide +kernel
theorem dL_home_6 : decode cL_home 6 = .ok (.aload_n 2, 1) := by decide +kernel
theorem dL_home_7 : decode cL_home 7 = .ok (.aload_n 3, 1) := by decide +kernel
theorem dL_home_8 : decode cL_home 8 = .ok (.iload 4, 2) := by decide +kernel
theorem dL_home_10 : decode cL_home 10 = .ok (.iload 5, 2) := by decide +kernel
theorem dL_home_12 : decode cL_home 12 = .ok (.iload 6, 2) := by decide +kernel
theorem dL_home_14 : decode cL_home 14 = .ok (.invokestatic 38, 3) := by decide +kernel
theorem dL_home_17 : decode cL_home 17 = .ok (.aload_n 3, 1) := by decide +kernel
theorem dL_home_18 : decode cL_home 18 = .ok (.iconst 0, 1) := by decide +kernel
theorem dL_home_19 : decode cL_home 19 = .ok (.iaload, 1) := by decide +kernel
theorem dL_home_20 : decode cL_home 20 = .ok (.ifCond .le 7, 3) := by decide +kernel
theorem dL_home_23 : decode cL_home 23 = .ok (.iconst 1, 1) := by decide +kernel
theorem dL_home_24 : decode cL_home 24 = .ok (.goto 4, 3) := by decide +kernel
theorem dL_home_27 : decode cL_home 27 = .ok (.iconst 0, 1) := by decide +kernel
theorem dL_home_28 : decode cL_home 28 = .ok (.ireturn, 1) := by decide +kernel
theorem dL_need_0 : decode cL_need 0 = .ok (.iconst 0, 1) := by decide +kernel
theorem dL_need_1 : decode cL_need 1 = .ok (.istore 6, 2) := by decide +kernel
theorem dL_need_3 : decode cL_need 3 = .ok (.iload 6, 2) := by decide +kernel
theorem dL_need_5 : decode cL_need 5 = .ok (.bipush 41, 2) := by decide +kernel
theorem dL_need_7 : decode cL_need 7 = .ok (.if_icmp .ge 28, 3) := by decide +kernel
theorem dL_need_10 : decode cL_need 10 = .ok (.aload_n 0, 1) := by decide +kernel
theorem dL_need_11 : decode cL_need 11 = .ok (.aload_n 1, 1) := by decide +kernel
theorem dL_need_12 : decode cL_need 12 = .ok (.aload_n 2, 1) := by decide +kernel
theorem dL_need_13 : decode cL_need 13 = .ok (.aload_n 3, 1) := by decide +kernel
theorem dL_need_14 : decode cL_need 14 = .ok (.iload 4, 2) := by decide +kernel
theorem dL_need_16 : decode cL_need 16 = .ok (.iload 5, 2) := by decide +kernel
theorem dL_need_18 : decode cL_need 18 = .ok (.iload 6, 2) := by decide +kernel
theorem dL_need_20 : decode cL_need 20 = .ok (.invokestatic 42, 3) := by decide +kernel
theorem dL_need_23 : decode cL_need 23 = .ok (.ifCond .eq 6, 3) := by decide +kernel
theorem dL_need_26 : decode cL_need 26 = .ok (.iload 6, 2) := by decide +kernel
theorem dL_need_28 : decode cL_need 28 = .ok (.ireturn, 1) := by decide +kernel
theorem dL_need_29 : decode cL_need 29 = .ok (.iinc 6 1, 3) := by decide +kernel
theorem dL_need_32 : decode cL_need 32 = .ok (.goto (-29), 3) := by decide +kernel
theorem dL_need_35 : decode cL_need 35 = .ok (.iconst (-1), 1) := by decide +kernel
theorem dL_need_36 : decode cL_need 36 = .ok (.ireturn, 1) := by decide +kernel
theorem dL_far_0 : decode cL_far 0 = .ok (.bipush 6, 2) := by decide +kernel
theorem dL_far_2 : decode cL_far 2 = .ok (.istore 5, 2) := by decide +kernel
theorem dL_far_4 : decode cL_far 4 = .ok (.iload 5, 2) := by decide +kernel
theorem dL_far_6 : decode cL_far 6 = .ok (.ifCond .le 26, 3) := by decide +kernel
theorem dL_far_9 : decode cL_far 9 = .ok (.aload_n 0, 1) := by decide +kernel
theorem dL_far_10 : decode cL_far 10 = .ok (.aload_n 1, 1) := by decide +kernel
theorem dL_far_11 : decode cL_far 11 = .ok (.aload_n 2, 1) := by decide +kernel
theorem dL_far_12 : decode cL_far 12 = .ok (.aload_n 3, 1) := by decide +kernel
theorem dL_far_13 : decode cL_far 13 = .ok (.iload 4, 2) := by decide +kernel
theorem dL_far_15 : decode cL_far 15 = .ok (.iload 5, 2) := by decide +kernel
theorem dL_far_17 : decode cL_far 17 = .ok (.invokestatic 46, 3) := by decide +kernel
theorem dL_far_20 : decode cL_far 20 = .ok (.ifCond .lt 6, 3) := by decide +kernel
theorem dL_far_23 : decode cL_far 23 = .ok (.iload 5, 2) := by decide +kernel
theorem dL_far_25 : decode cL_far 25 = .ok (.ireturn, 1) := by decide +kernel
theorem dL_far_26 : decode cL_far 26 = .ok (.iinc 5 (-1), 3) := by decide +kernel
theorem dL_far_29 : decode cL_far 29 = .ok (.goto (-25), 3) := by decide +kernel
theorem dL_far_32 : decode cL_far 32 = .ok (.iconst 0, 1) := by decide +kernel
theorem dL_far_33 : decode cL_far 33 = .ok (.ireturn, 1) := by decide +kernel
theorem dL_stands_0 : decode cL_stands 0 = .ok (.iconst 0, 1) := by decide +kernel
theorem dL_stands_1 : decode cL_stands 1 = .ok (.istore_n 3, 1) := by decide +kernel
theorem dL_stands_2 : decode cL_stands 2 = .ok (.iload_n 3, 1) := by decide +kernel
theorem dL_stands_3 : decode cL_stands 3 = .ok (.aload_n 1, 1) := by decide +kernel
theorem dL_stands_4 : decode cL_stands 4 = .ok (.iconst 0, 1) := by decide +kernel
theorem dL_stands_5 : decode cL_stands 5 = .ok (.iaload, 1) := by decide +kernel
theorem dL_stands_6 : decode cL_stands 6 = .ok (.if_icmp .ge 99, 3) := by decide +kernel
theorem dL_stands_9 : decode cL_stands 9 = .ok (.aload_n 0, 1) := by decide +kernel
theorem dL_stands_10 : decode cL_stands 10 = .ok (.iload_n 3, 1) := by decide +kernel
theorem dL_stands_11 : decode cL_stands 11 = .ok (.iconst 0, 1) := by decide +kernel
theorem dL_stands_12 : decode cL_stands 12 = .ok (.invokevirtual 50, 3) := by decide +kernel
theorem dL_stands_15 : decode cL_stands 15 = .ok (.aload_n 1, 1) := by decide +kernel
theorem dL_stands_16 : decode cL_stands 16 = .ok (.iconst 1, 1) := by decide +kernel
theorem dL_stands_17 : decode cL_stands 17 = .ok (.iload_n 3, 1) := by decide +kernel
theorem dL_stands_18 : decode cL_stands 18 = .ok (.iadd, 1) := by decide +kernel
theorem dL_stands_19 : decode cL_stands 19 = .ok (.iaload, 1) := by decide +kernel
theorem dL_stands_20 : decode cL_stands 20 = .ok (.if_icmp .ne 77, 3) := by decide +kernel
theorem dL_stands_23 : decode cL_stands 23 = .ok (.aload_n 0, 1) := by decide +kernel
theorem dL_stands_24 : decode cL_stands 24 = .ok (.iload_n 3, 1) := by decide +kernel
theorem dL_stands_25 : decode cL_stands 25 = .ok (.iconst 1, 1) := by decide +kernel
theorem dL_stands_26 : decode cL_stands 26 = .ok (.invokevirtual 50, 3) := by decide +kernel
theorem dL_stands_29 : decode cL_stands 29 = .ok (.aload_n 1, 1) := by decide +kernel
theorem dL_stands_30 : decode cL_stands 30 = .ok (.iconst 1, 1) := by decide +kernel
theorem dL_stands_31 : decode cL_stands 31 = .ok (.iload_n 3, 1) := by decide +kernel
theorem dL_stands_32 : decode cL_stands 32 = .ok (.iadd, 1) := by decide +kernel
theorem dL_stands_33 : decode cL_stands 33 = .ok (.iaload, 1) := by decide +kernel
theorem dL_stands_34 : decode cL_stands 34 = .ok (.invokestatic 24, 3) := by decide +kernel
theorem dL_stands_37 : decode cL_stands 37 = .ok (.if_icmp .ne 60, 3) := by decide +kernel
theorem dL_stands_40 : decode cL_stands 40 = .ok (.aload_n 0, 1) := by decide +kernel
theorem dL_stands_41 : decode cL_stands 41 = .ok (.iload_n 3, 1) := by decide +kernel
theorem dL_stands_42 : decode cL_stands 42 = .ok (.iconst 2, 1) := by decide +kernel
theorem dL_stands_43 : decode cL_stands 43 = .ok (.invokevirtual 50, 3) := by decide +kernel
theorem dL_stands_46 : decode cL_stands 46 = .ok (.aload_n 1, 1) := by decide +kernel
theorem dL_stands_47 : decode cL_stands 47 = .ok (.iconst 1, 1) := by decide +kernel
theorem dL_stands_48 : decode cL_stands 48 = .ok (.iload_n 3, 1) := by decide +kernel
theorem dL_stands_49 : decode cL_stands 49 = .ok (.iadd, 1) := by decide +kernel
theorem dL_stands_50 : decode cL_stands 50 = .ok (.iaload, 1) := by decide +kernel
theorem dL_stands_51 : decode cL_stands 51 = .ok (.iconst 1, 1) := by decide +kernel
theorem dL_stands_52 : decode cL_stands 52 = .ok (.if_icmp .ne 7, 3) := by decide +kernel
theorem dL_stands_55 : decode cL_stands 55 = .ok (.iconst 2, 1) := by decide +kernel
theorem dL_stands_56 : decode cL_stands 56 = .ok (.goto 4, 3) := by decide +kernel
theorem dL_stands_59 : decode cL_stands 59 = .ok (.iconst 1, 1) := by decide +kernel
theorem dL_stands_60 : decode cL_stands 60 = .ok (.if_icmp .ne 37, 3) := by decide +kernel
theorem dL_stands_63 : decode cL_stands 63 = .ok (.aload_n 0, 1) := by decide +kernel
theorem dL_stands_64 : decode cL_stands 64 = .ok (.iload_n 3, 1) := by decide +kernel
theorem dL_stands_65 : decode cL_stands 65 = .ok (.iconst 3, 1) := by decide +kernel
theorem dL_stands_66 : decode cL_stands 66 = .ok (.invokevirtual 50, 3) := by decide +kernel
theorem dL_stands_69 : decode cL_stands 69 = .ok (.aload_n 1, 1) := by decide +kernel
theorem dL_stands_70 : decode cL_stands 70 = .ok (.iconst 1, 1) := by decide +kernel
theorem dL_stands_71 : decode cL_stands 71 = .ok (.iload_n 3, 1) := by decide +kernel
theorem dL_stands_72 : decode cL_stands 72 = .ok (.iadd, 1) := by decide +kernel
theorem dL_stands_73 : decode cL_stands 73 = .ok (.iaload, 1) := by decide +kernel
theorem dL_stands_74 : decode cL_stands 74 = .ok (.invokestatic 31, 3) := by decide +kernel
theorem dL_stands_77 : decode cL_stands 77 = .ok (.if_icmp .ne 20, 3) := by decide +kernel
theorem dL_stands_80 : decode cL_stands 80 = .ok (.aload_n 0, 1) := by decide +kernel
theorem dL_stands_81 : decode cL_stands 81 = .ok (.iload_n 3, 1) := by decide +kernel
theorem dL_stands_82 : decode cL_stands 82 = .ok (.iconst 4, 1) := by decide +kernel
theorem dL_stands_83 : decode cL_stands 83 = .ok (.invokevirtual 50, 3) := by decide +kernel
theorem dL_stands_86 : decode cL_stands 86 = .ok (.aload_n 2, 1) := by decide +kernel
theorem dL_stands_87 : decode cL_stands 87 = .ok (.bipush 6, 2) := by decide +kernel
theorem dL_stands_89 : decode cL_stands 89 = .ok (.iaload, 1) := by decide +kernel
theorem dL_stands_90 : decode cL_stands 90 = .ok (.iload_n 3, 1) := by decide +kernel
theorem dL_stands_91 : decode cL_stands 91 = .ok (.ishr, 1) := by decide +kernel
theorem dL_stands_92 : decode cL_stands 92 = .ok (.iconst 1, 1) := by decide +kernel
theorem dL_stands_93 : decode cL_stands 93 = .ok (.iand, 1) := by decide +kernel
theorem dL_stands_94 : decode cL_stands 94 = .ok (.if_icmp .eq 5, 3) := by decide +kernel
theorem dL_stands_97 : decode cL_stands 97 = .ok (.iconst 0, 1) := by decide +kernel
theorem dL_stands_98 : decode cL_stands 98 = .ok (.ireturn, 1) := by decide +kernel
theorem dL_stands_99 : decode cL_stands 99 = .ok (.iinc 3 1, 3) := by decide +kernel
theorem dL_stands_102 : decode cL_stands 102 = .ok (.goto (-100), 3) := by decide +kernel
theorem dL_stands_105 : decode cL_stands 105 = .ok (.iconst 1, 1) := by decide +kernel
theorem dL_stands_106 : decode cL_stands 106 = .ok (.istore_n 3, 1) := by decide +kernel
theorem dL_stands_107 : decode cL_stands 107 = .ok (.iload_n 3, 1) := by decide +kernel
theorem dL_stands_108 : decode cL_stands 108 = .ok (.bipush 6, 2) := by decide +kernel
theorem dL_stands_110 : decode cL_stands 110 = .ok (.if_icmp .ge 23, 3) := by decide +kernel
theorem dL_stands_113 : decode cL_stands 113 = .ok (.aload_n 0, 1) := by decide +kernel
theorem dL_stands_114 : decode cL_stands 114 = .ok (.iload_n 3, 1) := by decide +kernel
theorem dL_stands_115 : decode cL_stands 115 = .ok (.iconst 0, 1) := by decide +kernel
theorem dL_stands_116 : decode cL_stands 116 = .ok (.invokevirtual 53, 3) := by decide +kernel
theorem dL_stands_119 : decode cL_stands 119 = .ok (.aload_n 2, 1) := by decide +kernel
theorem dL_stands_120 : decode cL_stands 120 = .ok (.iload_n 3, 1) := by decide +kernel
theorem dL_stands_121 : decode cL_stands 121 = .ok (.iaload, 1) := by decide +kernel
theorem dL_stands_122 : decode cL_stands 122 = .ok (.if_icmp .eq 5, 3) := by decide +kernel
theorem dL_stands_125 : decode cL_stands 125 = .ok (.iconst 0, 1) := by decide +kernel
theorem dL_stands_126 : decode cL_stands 126 = .ok (.ireturn, 1) := by decide +kernel
theorem dL_stands_127 : decode cL_stands 127 = .ok (.iinc 3 1, 3) := by decide +kernel
theorem dL_stands_130 : decode cL_stands 130 = .ok (.goto (-23), 3) := by decide +kernel
theorem dL_stands_133 : decode cL_stands 133 = .ok (.aload_n 0, 1) := by decide +kernel
theorem dL_stands_134 : decode cL_stands 134 = .ok (.iconst 0, 1) := by decide +kernel
theorem dL_stands_135 : decode cL_stands 135 = .ok (.invokevirtual 56, 3) := by decide +kernel
theorem dL_stands_138 : decode cL_stands 138 = .ok (.aload_n 1, 1) := by decide +kernel
theorem dL_stands_139 : decode cL_stands 139 = .ok (.iconst 0, 1) := by decide +kernel
theorem dL_stands_140 : decode cL_stands 140 = .ok (.iaload, 1) := by decide +kernel
theorem dL_stands_141 : decode cL_stands 141 = .ok (.if_icmp .ne 93, 3) := by decide +kernel
theorem dL_stands_144 : decode cL_stands 144 = .ok (.aload_n 0, 1) := by decide +kernel
theorem dL_stands_145 : decode cL_stands 145 = .ok (.iconst 1, 1) := by decide +kernel
theorem dL_stands_146 : decode cL_stands 146 = .ok (.invokevirtual 56, 3) := by decide +kernel
theorem dL_stands_149 : decode cL_stands 149 = .ok (.aload_n 2, 1) := by decide +kernel
theorem dL_stands_150 : decode cL_stands 150 = .ok (.bipush 6, 2) := by decide +kernel
theorem dL_stands_152 : decode cL_stands 152 = .ok (.iaload, 1) := by decide +kernel
theorem dL_stands_153 : decode cL_stands 153 = .ok (.invokestatic 59, 3) := by decide +kernel
theorem dL_stands_156 : decode cL_stands 156 = .ok (.if_icmp .ne 78, 3) := by decide +kernel
theorem dL_stands_159 : decode cL_stands 159 = .ok (.aload_n 0, 1) := by decide +kernel
theorem dL_stands_160 : decode cL_stands 160 = .ok (.iconst 2, 1) := by decide +kernel
theorem dL_stands_161 : decode cL_stands 161 = .ok (.invokevirtual 56, 3) := by decide +kernel
theorem dL_stands_164 : decode cL_stands 164 = .ok (.aload_n 2, 1) := by decide +kernel
theorem dL_stands_165 : decode cL_stands 165 = .ok (.invokestatic 62, 3) := by decide +kernel
theorem dL_stands_168 : decode cL_stands 168 = .ok (.if_icmp .ne 66, 3) := by decide +kernel
theorem dL_stands_171 : decode cL_stands 171 = .ok (.aload_n 0, 1) := by decide +kernel
theorem dL_stands_172 : decode cL_stands 172 = .ok (.iconst 3, 1) := by decide +kernel
theorem dL_stands_173 : decode cL_stands 173 = .ok (.invokevirtual 56, 3) := by decide +kernel
theorem dL_stands_176 : decode cL_stands 176 = .ok (.aload_n 2, 1) := by decide +kernel
theorem dL_stands_177 : decode cL_stands 177 = .ok (.bipush 7, 2) := by decide +kernel
theorem dL_stands_179 : decode cL_stands 179 = .ok (.iaload, 1) := by decide +kernel
theorem dL_stands_180 : decode cL_stands 180 = .ok (.if_icmp .ne 54, 3) := by decide +kernel
theorem dL_stands_183 : decode cL_stands 183 = .ok (.aload_n 0, 1) := by decide +kernel
theorem dL_stands_184 : decode cL_stands 184 = .ok (.iconst 4, 1) := by decide +kernel
theorem dL_stands_185 : decode cL_stands 185 = .ok (.invokevirtual 56, 3) := by decide +kernel
theorem dL_stands_188 : decode cL_stands 188 = .ok (.aload_n 2, 1) := by decide +kernel
theorem dL_stands_189 : decode cL_stands 189 = .ok (.bipush 8, 2) := by decide +kernel
theorem dL_stands_191 : decode cL_stands 191 = .ok (.iaload, 1) := by decide +kernel
theorem dL_stands_192 : decode cL_stands 192 = .ok (.if_icmp .ne 42, 3) := by decide +kernel
theorem dL_stands_195 : decode cL_stands 195 = .ok (.aload_n 0, 1) := by decide +kernel
theorem dL_stands_196 : decode cL_stands 196 = .ok (.iconst 5, 1) := by decide +kernel
theorem dL_stands_197 : decode cL_stands 197 = .ok (.invokevirtual 56, 3) := by decide +kernel
theorem dL_stands_200 : decode cL_stands 200 = .ok (.aload_n 1, 1) := by decide +kernel
theorem dL_stands_201 : decode cL_stands 201 = .ok (.aload_n 2, 1) := by decide +kernel
theorem dL_stands_202 : decode cL_stands 202 = .ok (.bipush 6, 2) := by decide +kernel
theorem dL_stands_204 : decode cL_stands 204 = .ok (.iaload, 1) := by decide +kernel
theorem dL_stands_205 : decode cL_stands 205 = .ok (.iconst 0, 1) := by decide +kernel
theorem dL_stands_206 : decode cL_stands 206 = .ok (.invokestatic 27, 3) := by decide +kernel
theorem dL_stands_209 : decode cL_stands 209 = .ok (.if_icmp .ne 25, 3) := by decide +kernel
theorem dL_stands_212 : decode cL_stands 212 = .ok (.aload_n 0, 1) := by decide +kernel
theorem dL_stands_213 : decode cL_stands 213 = .ok (.bipush 6, 2) := by decide +kernel
theorem dL_stands_215 : decode cL_stands 215 = .ok (.invokevirtual 56, 3) := by decide +kernel
theorem dL_stands_218 : decode cL_stands 218 = .ok (.aload_n 1, 1) := by decide +kernel
theorem dL_stands_219 : decode cL_stands 219 = .ok (.aload_n 2, 1) := by decide +kernel
theorem dL_stands_220 : decode cL_stands 220 = .ok (.bipush 6, 2) := by decide +kernel
theorem dL_stands_222 : decode cL_stands 222 = .ok (.iaload, 1) := by decide +kernel
theorem dL_stands_223 : decode cL_stands 223 = .ok (.iconst 1, 1) := by decide +kernel
theorem dL_stands_224 : decode cL_stands 224 = .ok (.invokestatic 27, 3) := by decide +kernel
theorem dL_stands_227 : decode cL_stands 227 = .ok (.if_icmp .ne 7, 3) := by decide +kernel
theorem dL_stands_230 : decode cL_stands 230 = .ok (.iconst 1, 1) := by decide +kernel
theorem dL_stands_231 : decode cL_stands 231 = .ok (.goto 4, 3) := by decide +kernel
theorem dL_stands_234 : decode cL_stands 234 = .ok (.iconst 0, 1) := by decide +kernel
theorem dL_stands_235 : decode cL_stands 235 = .ok (.ireturn, 1) := by decide +kernel
theorem dL_does_0 : decode cL_does 0 = .ok (.iload 4, 2) := by decide +kernel
theorem dL_does_2 : decode cL_does 2 = .ok (.iconst 4, 1) := by decide +kernel
theorem dL_does_3 : decode cL_does 3 = .ok (.invokestatic 8, 3) := by decide +kernel
theorem dL_does_6 : decode cL_does 6 = .ok (.ifCond .gt 10, 3) := by decide +kernel
theorem dL_does_9 : decode cL_does 9 = .ok (.aload_n 2, 1) := by decide +kernel
theorem dL_does_10 : decode cL_does 10 = .ok (.bipush 6, 2) := by decide +kernel
theorem dL_does_12 : decode cL_does 12 = .ok (.iaload, 1) := by decide +kernel
theorem dL_does_13 : decode cL_does 13 = .ok (.ifCond .ne 55, 3) := by decide +kernel
theorem dL_does_16 : decode cL_does 16 = .ok (.iconst 1, 1) := by decide +kernel
theorem dL_does_17 : decode cL_does 17 = .ok (.iload 4, 2) := by decide +kernel
theorem dL_does_19 : decode cL_does 19 = .ok (.iconst 2, 1) := by decide +kernel
theorem dL_does_20 : decode cL_does 20 = .ok (.ishr, 1) := by decide +kernel
theorem dL_does_21 : decode cL_does 21 = .ok (.iconst 5, 1) := by decide +kernel
theorem dL_does_22 : decode cL_does 22 = .ok (.invokestatic 8, 3) := by decide +kernel
theorem dL_does_25 : decode cL_does 25 = .ok (.iadd, 1) := by decide +kernel
theorem dL_does_26 : decode cL_does 26 = .ok (.istore 5, 2) := by decide +kernel
theorem dL_does_28 : decode cL_does 28 = .ok (.aload_n 2, 1) := by decide +kernel
theorem dL_does_29 : decode cL_does 29 = .ok (.iload 5, 2) := by decide +kernel
theorem dL_does_31 : decode cL_does 31 = .ok (.iaload, 1) := by decide +kernel
theorem dL_does_32 : decode cL_does 32 = .ok (.istore 6, 2) := by decide +kernel
theorem dL_does_34 : decode cL_does 34 = .ok (.aload_n 2, 1) := by decide +kernel
theorem dL_does_35 : decode cL_does 35 = .ok (.iload 5, 2) := by decide +kernel
theorem dL_does_37 : decode cL_does 37 = .ok (.iload 4, 2) := by decide +kernel
theorem dL_does_39 : decode cL_does 39 = .ok (.iconst 5, 1) := by decide +kernel
theorem dL_does_40 : decode cL_does 40 = .ok (.ishr, 1) := by decide +kernel
theorem dL_does_41 : decode cL_does 41 = .ok (.bipush 10, 2) := by decide +kernel
theorem dL_does_43 : decode cL_does 43 = .ok (.invokestatic 8, 3) := by decide +kernel
theorem dL_does_46 : decode cL_does 46 = .ok (.iastore, 1) := by decide +kernel
theorem dL_does_47 : decode cL_does 47 = .ok (.aload_n 0, 1) := by decide +kernel
theorem dL_does_48 : decode cL_does 48 = .ok (.iload 5, 2) := by decide +kernel
theorem dL_does_50 : decode cL_does 50 = .ok (.aload_n 2, 1) := by decide +kernel
theorem dL_does_51 : decode cL_does 51 = .ok (.iload 5, 2) := by decide +kernel
theorem dL_does_53 : decode cL_does 53 = .ok (.iaload, 1) := by decide +kernel
theorem dL_does_54 : decode cL_does 54 = .ok (.invokevirtual 66, 3) := by decide +kernel
theorem dL_does_57 : decode cL_does 57 = .ok (.iload 6, 2) := by decide +kernel
theorem dL_does_59 : decode cL_does 59 = .ok (.if_icmp .ne 7, 3) := by decide +kernel
theorem dL_does_62 : decode cL_does 62 = .ok (.iconst 1, 1) := by decide +kernel
theorem dL_does_63 : decode cL_does 63 = .ok (.goto 4, 3) := by decide +kernel
theorem dL_does_66 : decode cL_does 66 = .ok (.iconst 0, 1) := by decide +kernel
theorem dL_does_67 : decode cL_does 67 = .ok (.ireturn, 1) := by decide +kernel
theorem dL_does_68 : decode cL_does 68 = .ok (.iconst 1, 1) := by decide +kernel
theorem dL_does_69 : decode cL_does 69 = .ok (.iload 4, 2) := by decide +kernel
theorem dL_does_71 : decode cL_does 71 = .ok (.iconst 2, 1) := by decide +kernel
theorem dL_does_72 : decode cL_does 72 = .ok (.ishr, 1) := by decide +kernel
theorem dL_does_73 : decode cL_does 73 = .ok (.iconst 1, 1) := by decide +kernel
theorem dL_does_74 : decode cL_does 74 = .ok (.aload_n 1, 1) := by decide +kernel
theorem dL_does_75 : decode cL_does 75 = .ok (.iconst 0, 1) := by decide +kernel
theorem dL_does_76 : decode cL_does 76 = .ok (.iaload, 1) := by decide +kernel
theorem dL_does_77 : decode cL_does 77 = .ok (.ishl, 1) := by decide +kernel
theorem dL_does_78 : decode cL_does 78 = .ok (.iconst 1, 1) := by decide +kernel
theorem dL_does_79 : decode cL_does 79 = .ok (.isub, 1) := by decide +kernel
theorem dL_does_80 : decode cL_does 80 = .ok (.invokestatic 8, 3) := by decide +kernel
theorem dL_does_83 : decode cL_does 83 = .ok (.iadd, 1) := by decide +kernel
theorem dL_does_84 : decode cL_does 84 = .ok (.istore 5, 2) := by decide +kernel
theorem dL_does_86 : decode cL_does 86 = .ok (.iload 4, 2) := by decide +kernel
theorem dL_does_88 : decode cL_does 88 = .ok (.bipush 8, 2) := by decide +kernel
theorem dL_does_90 : decode cL_does 90 = .ok (.ishr, 1) := by decide +kernel
theorem dL_does_91 : decode cL_does 91 = .ok (.iconst 3, 1) := by decide +kernel
theorem dL_does_92 : decode cL_does 92 = .ok (.invokestatic 8, 3) := by decide +kernel
theorem dL_does_95 : decode cL_does 95 = .ok (.ifCond .le 22, 3) := by decide +kernel
theorem dL_does_98 : decode cL_does 98 = .ok (.iload 5, 2) := by decide +kernel
theorem dL_does_100 : decode cL_does 100 = .ok (.aload_n 2, 1) := by decide +kernel
theorem dL_does_101 : decode cL_does 101 = .ok (.bipush 6, 2) := by decide +kernel
theorem dL_does_103 : decode cL_does 103 = .ok (.iaload, 1) := by decide +kernel
theorem dL_does_104 : decode cL_does 104 = .ok (.iand, 1) := by decide +kernel
theorem dL_does_105 : decode cL_does 105 = .ok (.ifCond .le 12, 3) := by decide +kernel
theorem dL_does_108 : decode cL_does 108 = .ok (.iload 5, 2) := by decide +kernel
theorem dL_does_110 : decode cL_does 110 = .ok (.aload_n 2, 1) := by decide +kernel
theorem dL_does_111 : decode cL_does 111 = .ok (.bipush 6, 2) := by decide +kernel
theorem dL_does_113 : decode cL_does 113 = .ok (.iaload, 1) := by decide +kernel
theorem dL_does_114 : decode cL_does 114 = .ok (.iand, 1) := by decide +kernel
theorem dL_does_115 : decode cL_does 115 = .ok (.istore 5, 2) := by decide +kernel
theorem dL_does_117 : decode cL_does 117 = .ok (.iconst 1, 1) := by decide +kernel
theorem dL_does_118 : decode cL_does 118 = .ok (.iload 4, 2) := by decide +kernel
theorem dL_does_120 : decode cL_does 120 = .ok (.bipush 10, 2) := by decide +kernel
theorem dL_does_122 : decode cL_does 122 = .ok (.ishr, 1) := by decide +kernel
theorem dL_does_123 : decode cL_does 123 = .ok (.bipush 6, 2) := by decide +kernel
theorem dL_does_125 : decode cL_does 125 = .ok (.invokestatic 8, 3) := by decide +kernel
theorem dL_does_128 : decode cL_does 128 = .ok (.iadd, 1) := by decide +kernel
theorem dL_does_129 : decode cL_does 129 = .ok (.istore 6, 2) := by decide +kernel
theorem dL_does_131 : decode cL_does 131 = .ok (.iload 4, 2) := by decide +kernel
theorem dL_does_133 : decode cL_does 133 = .ok (.bipush 13, 2) := by decide +kernel
theorem dL_does_135 : decode cL_does 135 = .ok (.ishr, 1) := by decide +kernel
theorem dL_does_136 : decode cL_does 136 = .ok (.iload 4, 2) := by decide +kernel
theorem dL_does_138 : decode cL_does 138 = .ok (.bipush 19, 2) := by decide +kernel
theorem dL_does_140 : decode cL_does 140 = .ok (.ishr, 1) := by decide +kernel
theorem dL_does_141 : decode cL_does 141 = .ok (.iconst 2, 1) := by decide +kernel
theorem dL_does_142 : decode cL_does 142 = .ok (.invokestatic 8, 3) := by decide +kernel
theorem dL_does_145 : decode cL_does 145 = .ok (.ifCond .ne 8, 3) := by decide +kernel
theorem dL_does_148 : decode cL_does 148 = .ok (.bipush 41, 2) := by decide +kernel
theorem dL_does_150 : decode cL_does 150 = .ok (.goto 5, 3) := by decide +kernel
theorem dL_does_153 : decode cL_does 153 = .ok (.bipush 21, 2) := by decide +kernel
theorem dL_does_155 : decode cL_does 155 = .ok (.invokestatic 8, 3) := by decide +kernel
theorem dL_does_158 : decode cL_does 158 = .ok (.istore 7, 2) := by decide +kernel
theorem dL_does_160 : decode cL_does 160 = .ok (.iload 5, 2) := by decide +kernel
theorem dL_does_162 : decode cL_does 162 = .ok (.aload_n 2, 1) := by decide +kernel
theorem dL_does_163 : decode cL_does 163 = .ok (.bipush 6, 2) := by decide +kernel
theorem dL_does_165 : decode cL_does 165 = .ok (.iaload, 1) := by decide +kernel
theorem dL_does_166 : decode cL_does 166 = .ok (.iconst (-1), 1) := by decide +kernel
theorem dL_does_167 : decode cL_does 167 = .ok (.ixor, 1) := by decide +kernel
theorem dL_does_168 : decode cL_does 168 = .ok (.iand, 1) := by decide +kernel
theorem dL_does_169 : decode cL_does 169 = .ok (.ifCond .eq 24, 3) := by decide +kernel
theorem dL_does_172 : decode cL_does 172 = .ok (.aload_n 0, 1) := by decide +kernel
theorem dL_does_173 : decode cL_does 173 = .ok (.iload 5, 2) := by decide +kernel
theorem dL_does_175 : decode cL_does 175 = .ok (.iload 6, 2) := by decide +kernel
theorem dL_does_177 : decode cL_does 177 = .ok (.iload 7, 2) := by decide +kernel
theorem dL_does_179 : decode cL_does 179 = .ok (.invokevirtual 69, 3) := by decide +kernel
theorem dL_does_182 : decode cL_does 182 = .ok (.bipush (-103), 2) := by decide +kernel
theorem dL_does_184 : decode cL_does 184 = .ok (.if_icmp .ne 7, 3) := by decide +kernel
theorem dL_does_187 : decode cL_does 187 = .ok (.iconst 1, 1) := by decide +kernel
theorem dL_does_188 : decode cL_does 188 = .ok (.goto 4, 3) := by decide +kernel
theorem dL_does_191 : decode cL_does 191 = .ok (.iconst 0, 1) := by decide +kernel
theorem dL_does_192 : decode cL_does 192 = .ok (.ireturn, 1) := by decide +kernel
theorem dL_does_193 : decode cL_does 193 = .ok (.aload_n 1, 1) := by decide +kernel
theorem dL_does_194 : decode cL_does 194 = .ok (.aload_n 2, 1) := by decide +kernel
theorem dL_does_195 : decode cL_does 195 = .ok (.aload_n 3, 1) := by decide +kernel
theorem dL_does_196 : decode cL_does 196 = .ok (.iload 5, 2) := by decide +kernel
theorem dL_does_198 : decode cL_does 198 = .ok (.iload 6, 2) := by decide +kernel
theorem dL_does_200 : decode cL_does 200 = .ok (.iload 7, 2) := by decide +kernel
theorem dL_does_202 : decode cL_does 202 = .ok (.invokestatic 38, 3) := by decide +kernel
theorem dL_does_205 : decode cL_does 205 = .ok (.aload_n 2, 1) := by decide +kernel
theorem dL_does_206 : decode cL_does 206 = .ok (.bipush 6, 2) := by decide +kernel
theorem dL_does_208 : decode cL_does 208 = .ok (.aload_n 2, 1) := by decide +kernel
theorem dL_does_209 : decode cL_does 209 = .ok (.bipush 6, 2) := by decide +kernel
theorem dL_does_211 : decode cL_does 211 = .ok (.iaload, 1) := by decide +kernel
theorem dL_does_212 : decode cL_does 212 = .ok (.iload 5, 2) := by decide +kernel
theorem dL_does_214 : decode cL_does 214 = .ok (.iconst (-1), 1) := by decide +kernel
theorem dL_does_215 : decode cL_does 215 = .ok (.ixor, 1) := by decide +kernel
theorem dL_does_216 : decode cL_does 216 = .ok (.iand, 1) := by decide +kernel
theorem dL_does_217 : decode cL_does 217 = .ok (.aload_n 3, 1) := by decide +kernel
theorem dL_does_218 : decode cL_does 218 = .ok (.iconst 0, 1) := by decide +kernel
theorem dL_does_219 : decode cL_does 219 = .ok (.iaload, 1) := by decide +kernel
theorem dL_does_220 : decode cL_does 220 = .ok (.ior, 1) := by decide +kernel
theorem dL_does_221 : decode cL_does 221 = .ok (.iastore, 1) := by decide +kernel
theorem dL_does_222 : decode cL_does 222 = .ok (.aload_n 2, 1) := by decide +kernel
theorem dL_does_223 : decode cL_does 223 = .ok (.bipush 7, 2) := by decide +kernel
theorem dL_does_225 : decode cL_does 225 = .ok (.dup2, 1) := by decide +kernel
theorem dL_does_226 : decode cL_does 226 = .ok (.iaload, 1) := by decide +kernel
theorem dL_does_227 : decode cL_does 227 = .ok (.iconst 1, 1) := by decide +kernel
theorem dL_does_228 : decode cL_does 228 = .ok (.iadd, 1) := by decide +kernel
theorem dL_does_229 : decode cL_does 229 = .ok (.iastore, 1) := by decide +kernel
theorem dL_does_230 : decode cL_does 230 = .ok (.aload_n 3, 1) := by decide +kernel
theorem dL_does_231 : decode cL_does 231 = .ok (.iconst 0, 1) := by decide +kernel
theorem dL_does_232 : decode cL_does 232 = .ok (.iaload, 1) := by decide +kernel
theorem dL_does_233 : decode cL_does 233 = .ok (.ifCond .le 11, 3) := by decide +kernel
theorem dL_does_236 : decode cL_does 236 = .ok (.aload_n 2, 1) := by decide +kernel
theorem dL_does_237 : decode cL_does 237 = .ok (.bipush 8, 2) := by decide +kernel
theorem dL_does_239 : decode cL_does 239 = .ok (.dup2, 1) := by decide +kernel
theorem dL_does_240 : decode cL_does 240 = .ok (.iaload, 1) := by decide +kernel
theorem dL_does_241 : decode cL_does 241 = .ok (.iconst 1, 1) := by decide +kernel
theorem dL_does_242 : decode cL_does 242 = .ok (.iadd, 1) := by decide +kernel
theorem dL_does_243 : decode cL_does 243 = .ok (.iastore, 1) := by decide +kernel
theorem dL_does_244 : decode cL_does 244 = .ok (.aload_n 0, 1) := by decide +kernel
theorem dL_does_245 : decode cL_does 245 = .ok (.iload 5, 2) := by decide +kernel
theorem dL_does_247 : decode cL_does 247 = .ok (.iload 6, 2) := by decide +kernel
theorem dL_does_249 : decode cL_does 249 = .ok (.iload 7, 2) := by decide +kernel
theorem dL_does_251 : decode cL_does 251 = .ok (.invokevirtual 69, 3) := by decide +kernel
theorem dL_does_254 : decode cL_does 254 = .ok (.aload_n 3, 1) := by decide +kernel
theorem dL_does_255 : decode cL_does 255 = .ok (.iconst 0, 1) := by decide +kernel
theorem dL_does_256 : decode cL_does 256 = .ok (.iaload, 1) := by decide +kernel
theorem dL_does_257 : decode cL_does 257 = .ok (.if_icmp .ne 7, 3) := by decide +kernel
theorem dL_does_260 : decode cL_does 260 = .ok (.iconst 1, 1) := by decide +kernel
theorem dL_does_261 : decode cL_does 261 = .ok (.goto 4, 3) := by decide +kernel
theorem dL_does_264 : decode cL_does 264 = .ok (.iconst 0, 1) := by decide +kernel
theorem dL_does_265 : decode cL_does 265 = .ok (.ireturn, 1) := by decide +kernel
theorem dL_law_0 : decode cL_law 0 = .ok (.new 15, 3) := by decide +kernel
theorem dL_law_3 : decode cL_law 3 = .ok (.dup, 1) := by decide +kernel
theorem dL_law_4 : decode cL_law 4 = .ok (.invokespecial 72, 3) := by decide +kernel
theorem dL_law_7 : decode cL_law 7 = .ok (.astore_n 1, 1) := by decide +kernel
theorem dL_law_8 : decode cL_law 8 = .ok (.bipush 7, 2) := by decide +kernel
theorem dL_law_10 : decode cL_law 10 = .ok (.newarray .int, 2) := by decide +kernel
theorem dL_law_12 : decode cL_law 12 = .ok (.astore_n 2, 1) := by decide +kernel
theorem dL_law_13 : decode cL_law 13 = .ok (.bipush 9, 2) := by decide +kernel
theorem dL_law_15 : decode cL_law 15 = .ok (.newarray .int, 2) := by decide +kernel
theorem dL_law_17 : decode cL_law 17 = .ok (.astore_n 3, 1) := by decide +kernel
theorem dL_law_18 : decode cL_law 18 = .ok (.bipush 9, 2) := by decide +kernel
theorem dL_law_20 : decode cL_law 20 = .ok (.newarray .int, 2) := by decide +kernel
theorem dL_law_22 : decode cL_law 22 = .ok (.astore 4, 2) := by decide +kernel
theorem dL_law_24 : decode cL_law 24 = .ok (.iconst 3, 1) := by decide +kernel
theorem dL_law_25 : decode cL_law 25 = .ok (.newarray .int, 2) := by decide +kernel
theorem dL_law_27 : decode cL_law 27 = .ok (.astore 5, 2) := by decide +kernel
theorem dL_law_29 : decode cL_law 29 = .ok (.bipush 15, 2) := by decide +kernel
theorem dL_law_31 : decode cL_law 31 = .ok (.newarray .int, 2) := by decide +kernel
theorem dL_law_33 : decode cL_law 33 = .ok (.astore 6, 2) := by decide +kernel
theorem dL_law_35 : decode cL_law 35 = .ok (.aload_n 0, 1) := by decide +kernel
theorem dL_law_36 : decode cL_law 36 = .ok (.iconst 0, 1) := by decide +kernel
theorem dL_law_37 : decode cL_law 37 = .ok (.invokestatic 73, 3) := by decide +kernel
theorem dL_law_40 : decode cL_law 40 = .ok (.aload_n 0, 1) := by decide +kernel
theorem dL_law_41 : decode cL_law 41 = .ok (.iconst 1, 1) := by decide +kernel
theorem dL_law_42 : decode cL_law 42 = .ok (.invokestatic 73, 3) := by decide +kernel
theorem dL_law_45 : decode cL_law 45 = .ok (.aload_n 2, 1) := by decide +kernel
theorem dL_law_46 : decode cL_law 46 = .ok (.aload_n 3, 1) := by decide +kernel
theorem dL_law_47 : decode cL_law 47 = .ok (.aload 6, 2) := by decide +kernel
theorem dL_law_49 : decode cL_law 49 = .ok (.invokestatic 77, 3) := by decide +kernel
theorem dL_law_52 : decode cL_law 52 = .ok (.istore 7, 2) := by decide +kernel
theorem dL_law_54 : decode cL_law 54 = .ok (.aload_n 1, 1) := by decide +kernel
theorem dL_law_55 : decode cL_law 55 = .ok (.aload 6, 2) := by decide +kernel
theorem dL_law_57 : decode cL_law 57 = .ok (.iload 7, 2) := by decide +kernel
theorem dL_law_59 : decode cL_law 59 = .ok (.invokestatic 81, 3) := by decide +kernel
theorem dL_law_62 : decode cL_law 62 = .ok (.ifCond .eq 31, 3) := by decide +kernel
theorem dL_law_65 : decode cL_law 65 = .ok (.aload_n 1, 1) := by decide +kernel
theorem dL_law_66 : decode cL_law 66 = .ok (.invokevirtual 85, 3) := by decide +kernel
theorem dL_law_69 : decode cL_law 69 = .ok (.iload 7, 2) := by decide +kernel
theorem dL_law_71 : decode cL_law 71 = .ok (.if_icmp .ne 22, 3) := by decide +kernel
theorem dL_law_74 : decode cL_law 74 = .ok (.aload_n 1, 1) := by decide +kernel
theorem dL_law_75 : decode cL_law 75 = .ok (.invokevirtual 89, 3) := by decide +kernel
theorem dL_law_78 : decode cL_law 78 = .ok (.aload_n 2, 1) := by decide +kernel
theorem dL_law_79 : decode cL_law 79 = .ok (.iconst 0, 1) := by decide +kernel
theorem dL_law_80 : decode cL_law 80 = .ok (.iaload, 1) := by decide +kernel
theorem dL_law_81 : decode cL_law 81 = .ok (.if_icmp .ne 12, 3) := by decide +kernel
theorem dL_law_84 : decode cL_law 84 = .ok (.aload_n 1, 1) := by decide +kernel
theorem dL_law_85 : decode cL_law 85 = .ok (.aload_n 2, 1) := by decide +kernel
theorem dL_law_86 : decode cL_law 86 = .ok (.aload_n 3, 1) := by decide +kernel
theorem dL_law_87 : decode cL_law 87 = .ok (.invokestatic 92, 3) := by decide +kernel
theorem dL_law_90 : decode cL_law 90 = .ok (.ifCond .ne 5, 3) := by decide +kernel
theorem dL_law_93 : decode cL_law 93 = .ok (.iconst 0, 1) := by decide +kernel
theorem dL_law_94 : decode cL_law 94 = .ok (.ireturn, 1) := by decide +kernel
theorem dL_law_95 : decode cL_law 95 = .ok (.iconst 0, 1) := by decide +kernel
theorem dL_law_96 : decode cL_law 96 = .ok (.istore 8, 2) := by decide +kernel
theorem dL_law_98 : decode cL_law 98 = .ok (.iload 8, 2) := by decide +kernel
theorem dL_law_100 : decode cL_law 100 = .ok (.aload_n 2, 1) := by decide +kernel
theorem dL_law_101 : decode cL_law 101 = .ok (.iconst 0, 1) := by decide +kernel
theorem dL_law_102 : decode cL_law 102 = .ok (.iaload, 1) := by decide +kernel
theorem dL_law_103 : decode cL_law 103 = .ok (.if_icmp .ge 75, 3) := by decide +kernel
theorem dL_law_106 : decode cL_law 106 = .ok (.iconst 0, 1) := by decide +kernel
theorem dL_law_107 : decode cL_law 107 = .ok (.istore 9, 2) := by decide +kernel
theorem dL_law_109 : decode cL_law 109 = .ok (.iload 9, 2) := by decide +kernel
theorem dL_law_111 : decode cL_law 111 = .ok (.iconst 5, 1) := by decide +kernel
theorem dL_law_112 : decode cL_law 112 = .ok (.if_icmp .ge 60, 3) := by decide +kernel
theorem dL_law_115 : decode cL_law 115 = .ok (.aload_n 1, 1) := by decide +kernel
theorem dL_law_116 : decode cL_law 116 = .ok (.iload 8, 2) := by decide +kernel
theorem dL_law_118 : decode cL_law 118 = .ok (.iload 9, 2) := by decide +kernel
theorem dL_law_120 : decode cL_law 120 = .ok (.invokevirtual 96, 3) := by decide +kernel
theorem dL_law_123 : decode cL_law 123 = .ok (.iload 9, 2) := by decide +kernel
theorem dL_law_125 : decode cL_law 125 = .ok (.ifCond .eq 30, 3) := by decide +kernel
theorem dL_law_128 : decode cL_law 128 = .ok (.iload 9, 2) := by decide +kernel
theorem dL_law_130 : decode cL_law 130 = .ok (.aload_n 2, 1) := by decide +kernel
theorem dL_law_131 : decode cL_law 131 = .ok (.iconst 1, 1) := by decide +kernel
theorem dL_law_132 : decode cL_law 132 = .ok (.iload 8, 2) := by decide +kernel
theorem dL_law_134 : decode cL_law 134 = .ok (.iadd, 1) := by decide +kernel
theorem dL_law_135 : decode cL_law 135 = .ok (.iaload, 1) := by decide +kernel
theorem dL_law_136 : decode cL_law 136 = .ok (.if_icmp .eq 19, 3) := by decide +kernel
theorem dL_law_139 : decode cL_law 139 = .ok (.iload 9, 2) := by decide +kernel
theorem dL_law_141 : decode cL_law 141 = .ok (.iconst 2, 1) := by decide +kernel
theorem dL_law_142 : decode cL_law 142 = .ok (.if_icmp .ne 18, 3) := by decide +kernel
theorem dL_law_145 : decode cL_law 145 = .ok (.aload_n 2, 1) := by decide +kernel
theorem dL_law_146 : decode cL_law 146 = .ok (.iconst 1, 1) := by decide +kernel
theorem dL_law_147 : decode cL_law 147 = .ok (.iload 8, 2) := by decide +kernel
theorem dL_law_149 : decode cL_law 149 = .ok (.iadd, 1) := by decide +kernel
theorem dL_law_150 : decode cL_law 150 = .ok (.iaload, 1) := by decide +kernel
theorem dL_law_151 : decode cL_law 151 = .ok (.iconst 4, 1) := by decide +kernel
theorem dL_law_152 : decode cL_law 152 = .ok (.if_icmp .ne 8, 3) := by decide +kernel
theorem dL_law_155 : decode cL_law 155 = .ok (.iload 8, 2) := by decide +kernel
theorem dL_law_157 : decode cL_law 157 = .ok (.goto 4, 3) := by decide +kernel
theorem dL_law_160 : decode cL_law 160 = .ok (.iconst (-1), 1) := by decide +kernel
theorem dL_law_161 : decode cL_law 161 = .ok (.if_icmp .eq 5, 3) := by decide +kernel
theorem dL_law_164 : decode cL_law 164 = .ok (.iconst 0, 1) := by decide +kernel
theorem dL_law_165 : decode cL_law 165 = .ok (.ireturn, 1) := by decide +kernel
theorem dL_law_166 : decode cL_law 166 = .ok (.iinc 9 1, 3) := by decide +kernel
theorem dL_law_169 : decode cL_law 169 = .ok (.goto (-60), 3) := by decide +kernel
theorem dL_law_172 : decode cL_law 172 = .ok (.iinc 8 1, 3) := by decide +kernel
theorem dL_law_175 : decode cL_law 175 = .ok (.goto (-77), 3) := by decide +kernel
theorem dL_law_178 : decode cL_law 178 = .ok (.iconst 0, 1) := by decide +kernel
theorem dL_law_179 : decode cL_law 179 = .ok (.istore 8, 2) := by decide +kernel
theorem dL_law_181 : decode cL_law 181 = .ok (.iload 8, 2) := by decide +kernel
theorem dL_law_183 : decode cL_law 183 = .ok (.bipush 24, 2) := by decide +kernel
theorem dL_law_185 : decode cL_law 185 = .ok (.if_icmp .ge 308, 3) := by decide +kernel
theorem dL_law_188 : decode cL_law 188 = .ok (.aload_n 0, 1) := by decide +kernel
theorem dL_law_189 : decode cL_law 189 = .ok (.iconst 2, 1) := by decide +kernel
theorem dL_law_190 : decode cL_law 190 = .ok (.iload 8, 2) := by decide +kernel
theorem dL_law_192 : decode cL_law 192 = .ok (.iadd, 1) := by decide +kernel
theorem dL_law_193 : decode cL_law 193 = .ok (.invokestatic 73, 3) := by decide +kernel
theorem dL_law_196 : decode cL_law 196 = .ok (.istore 9, 2) := by decide +kernel
theorem dL_law_198 : decode cL_law 198 = .ok (.iload 9, 2) := by decide +kernel
theorem dL_law_200 : decode cL_law 200 = .ok (.bipush 8, 2) := by decide +kernel
theorem dL_law_202 : decode cL_law 202 = .ok (.invokestatic 8, 3) := by decide +kernel
theorem dL_law_205 : decode cL_law 205 = .ok (.istore 10, 2) := by decide +kernel
theorem dL_law_207 : decode cL_law 207 = .ok (.iload 10, 2) := by decide +kernel
theorem dL_law_209 : decode cL_law 209 = .ok (.iconst 5, 1) := by decide +kernel
theorem dL_law_210 : decode cL_law 210 = .ok (.if_icmp .ge 20, 3) := by decide +kernel
theorem dL_law_213 : decode cL_law 213 = .ok (.aload_n 1, 1) := by decide +kernel
theorem dL_law_214 : decode cL_law 214 = .ok (.aload_n 2, 1) := by decide +kernel
theorem dL_law_215 : decode cL_law 215 = .ok (.aload_n 3, 1) := by decide +kernel
theorem dL_law_216 : decode cL_law 216 = .ok (.aload 5, 2) := by decide +kernel
theorem dL_law_218 : decode cL_law 218 = .ok (.iload 9, 2) := by decide +kernel
theorem dL_law_220 : decode cL_law 220 = .ok (.iconst 3, 1) := by decide +kernel
theorem dL_law_221 : decode cL_law 221 = .ok (.ishr, 1) := by decide +kernel
theorem dL_law_222 : decode cL_law 222 = .ok (.invokestatic 99, 3) := by decide +kernel
theorem dL_law_225 : decode cL_law 225 = .ok (.ifCond .ne 251, 3) := by decide +kernel
theorem dL_law_228 : decode cL_law 228 = .ok (.iconst 0, 1) := by decide +kernel
theorem dL_law_229 : decode cL_law 229 = .ok (.ireturn, 1) := by decide +kernel
theorem dL_law_230 : decode cL_law 230 = .ok (.iload 10, 2) := by decide +kernel
theorem dL_law_232 : decode cL_law 232 = .ok (.bipush 7, 2) := by decide +kernel
theorem dL_law_234 : decode cL_law 234 = .ok (.if_icmp .ge 204, 3) := by decide +kernel
theorem dL_law_237 : decode cL_law 237 = .ok (.iconst 1, 1) := by decide +kernel
theorem dL_law_238 : decode cL_law 238 = .ok (.iload 9, 2) := by decide +kernel
theorem dL_law_240 : decode cL_law 240 = .ok (.iconst 3, 1) := by decide +kernel
theorem dL_law_241 : decode cL_law 241 = .ok (.ishr, 1) := by decide +kernel
theorem dL_law_242 : decode cL_law 242 = .ok (.iconst 1, 1) := by decide +kernel
theorem dL_law_243 : decode cL_law 243 = .ok (.aload_n 2, 1) := by decide +kernel
theorem dL_law_244 : decode cL_law 244 = .ok (.iconst 0, 1) := by decide +kernel
theorem dL_law_245 : decode cL_law 245 = .ok (.iaload, 1) := by decide +kernel
theorem dL_law_246 : decode cL_law 246 = .ok (.ishl, 1) := by decide +kernel
theorem dL_law_247 : decode cL_law 247 = .ok (.iconst 1, 1) := by decide +kernel
theorem dL_law_248 : decode cL_law 248 = .ok (.isub, 1) := by decide +kernel
theorem dL_law_249 : decode cL_law 249 = .ok (.invokestatic 8, 3) := by decide +kernel
theorem dL_law_252 : decode cL_law 252 = .ok (.iadd, 1) := by decide +kernel
theorem dL_law_253 : decode cL_law 253 = .ok (.istore 11, 2) := by decide +kernel
theorem dL_law_255 : decode cL_law 255 = .ok (.iconst 1, 1) := by decide +kernel
theorem dL_law_256 : decode cL_law 256 = .ok (.iload 9, 2) := by decide +kernel
theorem dL_law_258 : decode cL_law 258 = .ok (.bipush 9, 2) := by decide +kernel
theorem dL_law_260 : decode cL_law 260 = .ok (.ishr, 1) := by decide +kernel
theorem dL_law_261 : decode cL_law 261 = .ok (.bipush 6, 2) := by decide +kernel
theorem dL_law_263 : decode cL_law 263 = .ok (.invokestatic 8, 3) := by decide +kernel
theorem dL_law_266 : decode cL_law 266 = .ok (.iadd, 1) := by decide +kernel
theorem dL_law_267 : decode cL_law 267 = .ok (.istore 12, 2) := by decide +kernel
theorem dL_law_269 : decode cL_law 269 = .ok (.iload 9, 2) := by decide +kernel
theorem dL_law_271 : decode cL_law 271 = .ok (.bipush 12, 2) := by decide +kernel
theorem dL_law_273 : decode cL_law 273 = .ok (.ishr, 1) := by decide +kernel
theorem dL_law_274 : decode cL_law 274 = .ok (.bipush 41, 2) := by decide +kernel
theorem dL_law_276 : decode cL_law 276 = .ok (.invokestatic 8, 3) := by decide +kernel
theorem dL_law_279 : decode cL_law 279 = .ok (.istore 13, 2) := by decide +kernel
theorem dL_law_281 : decode cL_law 281 = .ok (.iload 11, 2) := by decide +kernel
theorem dL_law_283 : decode cL_law 283 = .ok (.aload_n 3, 1) := by decide +kernel
theorem dL_law_284 : decode cL_law 284 = .ok (.bipush 6, 2) := by decide +kernel
theorem dL_law_286 : decode cL_law 286 = .ok (.iaload, 1) := by decide +kernel
theorem dL_law_287 : decode cL_law 287 = .ok (.iconst (-1), 1) := by decide +kernel
theorem dL_law_288 : decode cL_law 288 = .ok (.ixor, 1) := by decide +kernel
theorem dL_law_289 : decode cL_law 289 = .ok (.iand, 1) := by decide +kernel
theorem dL_law_290 : decode cL_law 290 = .ok (.ifCond .ne 7, 3) := by decide +kernel
theorem dL_law_293 : decode cL_law 293 = .ok (.iconst 1, 1) := by decide +kernel
theorem dL_law_294 : decode cL_law 294 = .ok (.goto 4, 3) := by decide +kernel
theorem dL_law_297 : decode cL_law 297 = .ok (.iconst 0, 1) := by decide +kernel
theorem dL_law_298 : decode cL_law 298 = .ok (.istore 14, 2) := by decide +kernel
theorem dL_law_300 : decode cL_law 300 = .ok (.aload 4, 2) := by decide +kernel
theorem dL_law_302 : decode cL_law 302 = .ok (.aload_n 3, 1) := by decide +kernel
theorem dL_law_303 : decode cL_law 303 = .ok (.invokestatic 34, 3) := by decide +kernel
theorem dL_law_306 : decode cL_law 306 = .ok (.aload_n 2, 1) := by decide +kernel
theorem dL_law_307 : decode cL_law 307 = .ok (.aload 4, 2) := by decide +kernel
theorem dL_law_309 : decode cL_law 309 = .ok (.aload 5, 2) := by decide +kernel
theorem dL_law_311 : decode cL_law 311 = .ok (.iload 11, 2) := by decide +kernel
theorem dL_law_313 : decode cL_law 313 = .ok (.iload 12, 2) := by decide +kernel
theorem dL_law_315 : decode cL_law 315 = .ok (.iload 13, 2) := by decide +kernel
theorem dL_law_317 : decode cL_law 317 = .ok (.invokestatic 38, 3) := by decide +kernel
theorem dL_law_320 : decode cL_law 320 = .ok (.aload_n 1, 1) := by decide +kernel
theorem dL_law_321 : decode cL_law 321 = .ok (.iload 11, 2) := by decide +kernel
theorem dL_law_323 : decode cL_law 323 = .ok (.iload 12, 2) := by decide +kernel
theorem dL_law_325 : decode cL_law 325 = .ok (.iload 13, 2) := by decide +kernel
theorem dL_law_327 : decode cL_law 327 = .ok (.iconst 0, 1) := by decide +kernel
theorem dL_law_328 : decode cL_law 328 = .ok (.invokevirtual 103, 3) := by decide +kernel
theorem dL_law_331 : decode cL_law 331 = .ok (.iload 14, 2) := by decide +kernel
theorem dL_law_333 : decode cL_law 333 = .ok (.ifCond .eq 10, 3) := by decide +kernel
theorem dL_law_336 : decode cL_law 336 = .ok (.aload 5, 2) := by decide +kernel
theorem dL_law_338 : decode cL_law 338 = .ok (.iconst 0, 1) := by decide +kernel
theorem dL_law_339 : decode cL_law 339 = .ok (.iaload, 1) := by decide +kernel
theorem dL_law_340 : decode cL_law 340 = .ok (.goto 5, 3) := by decide +kernel
theorem dL_law_343 : decode cL_law 343 = .ok (.bipush (-103), 2) := by decide +kernel
theorem dL_law_345 : decode cL_law 345 = .ok (.if_icmp .ne 88, 3) := by decide +kernel
theorem dL_law_348 : decode cL_law 348 = .ok (.aload_n 1, 1) := by decide +kernel
theorem dL_law_349 : decode cL_law 349 = .ok (.iload 11, 2) := by decide +kernel
theorem dL_law_351 : decode cL_law 351 = .ok (.iload 12, 2) := by decide +kernel
theorem dL_law_353 : decode cL_law 353 = .ok (.iload 13, 2) := by decide +kernel
theorem dL_law_355 : decode cL_law 355 = .ok (.iconst 1, 1) := by decide +kernel
theorem dL_law_356 : decode cL_law 356 = .ok (.invokevirtual 103, 3) := by decide +kernel
theorem dL_law_359 : decode cL_law 359 = .ok (.iload 14, 2) := by decide +kernel
theorem dL_law_361 : decode cL_law 361 = .ok (.ifCond .eq 10, 3) := by decide +kernel
theorem dL_law_364 : decode cL_law 364 = .ok (.aload 5, 2) := by decide +kernel
theorem dL_law_366 : decode cL_law 366 = .ok (.iconst 1, 1) := by decide +kernel
theorem dL_law_367 : decode cL_law 367 = .ok (.iaload, 1) := by decide +kernel
theorem dL_law_368 : decode cL_law 368 = .ok (.goto 5, 3) := by decide +kernel
theorem dL_law_371 : decode cL_law 371 = .ok (.bipush (-103), 2) := by decide +kernel
theorem dL_law_373 : decode cL_law 373 = .ok (.if_icmp .ne 60, 3) := by decide +kernel
theorem dL_law_376 : decode cL_law 376 = .ok (.aload_n 1, 1) := by decide +kernel
theorem dL_law_377 : decode cL_law 377 = .ok (.iload 11, 2) := by decide +kernel
theorem dL_law_379 : decode cL_law 379 = .ok (.iload 12, 2) := by decide +kernel
theorem dL_law_381 : decode cL_law 381 = .ok (.iload 13, 2) := by decide +kernel
theorem dL_law_383 : decode cL_law 383 = .ok (.iconst 2, 1) := by decide +kernel
theorem dL_law_384 : decode cL_law 384 = .ok (.invokevirtual 103, 3) := by decide +kernel
theorem dL_law_387 : decode cL_law 387 = .ok (.iload 14, 2) := by decide +kernel
theorem dL_law_389 : decode cL_law 389 = .ok (.ifCond .eq 11, 3) := by decide +kernel
theorem dL_law_392 : decode cL_law 392 = .ok (.aload 4, 2) := by decide +kernel
theorem dL_law_394 : decode cL_law 394 = .ok (.invokestatic 62, 3) := by decide +kernel
theorem dL_law_397 : decode cL_law 397 = .ok (.goto 5, 3) := by decide +kernel
theorem dL_law_400 : decode cL_law 400 = .ok (.bipush (-103), 2) := by decide +kernel
theorem dL_law_402 : decode cL_law 402 = .ok (.if_icmp .ne 31, 3) := by decide +kernel
theorem dL_law_405 : decode cL_law 405 = .ok (.aload_n 1, 1) := by decide +kernel
theorem dL_law_406 : decode cL_law 406 = .ok (.iload 11, 2) := by decide +kernel
theorem dL_law_408 : decode cL_law 408 = .ok (.iload 12, 2) := by decide +kernel
theorem dL_law_410 : decode cL_law 410 = .ok (.iload 13, 2) := by decide +kernel
theorem dL_law_412 : decode cL_law 412 = .ok (.iconst 3, 1) := by decide +kernel
theorem dL_law_413 : decode cL_law 413 = .ok (.invokevirtual 103, 3) := by decide +kernel
theorem dL_law_416 : decode cL_law 416 = .ok (.iload 14, 2) := by decide +kernel
theorem dL_law_418 : decode cL_law 418 = .ok (.ifCond .eq 10, 3) := by decide +kernel
theorem dL_law_421 : decode cL_law 421 = .ok (.aload 5, 2) := by decide +kernel
theorem dL_law_423 : decode cL_law 423 = .ok (.iconst 2, 1) := by decide +kernel
theorem dL_law_424 : decode cL_law 424 = .ok (.iaload, 1) := by decide +kernel
theorem dL_law_425 : decode cL_law 425 = .ok (.goto 5, 3) := by decide +kernel
theorem dL_law_428 : decode cL_law 428 = .ok (.bipush (-103), 2) := by decide +kernel
theorem dL_law_430 : decode cL_law 430 = .ok (.if_icmp .eq 5, 3) := by decide +kernel
theorem dL_law_433 : decode cL_law 433 = .ok (.iconst 0, 1) := by decide +kernel
theorem dL_law_434 : decode cL_law 434 = .ok (.ireturn, 1) := by decide +kernel
theorem dL_law_435 : decode cL_law 435 = .ok (.goto 41, 3) := by decide +kernel
theorem dL_law_438 : decode cL_law 438 = .ok (.aload_n 1, 1) := by decide +kernel
theorem dL_law_439 : decode cL_law 439 = .ok (.aload_n 2, 1) := by decide +kernel
theorem dL_law_440 : decode cL_law 440 = .ok (.aload_n 3, 1) := by decide +kernel
theorem dL_law_441 : decode cL_law 441 = .ok (.aload 5, 2) := by decide +kernel
theorem dL_law_443 : decode cL_law 443 = .ok (.iconst 1, 1) := by decide +kernel
theorem dL_law_444 : decode cL_law 444 = .ok (.iload 9, 2) := by decide +kernel
theorem dL_law_446 : decode cL_law 446 = .ok (.iconst 3, 1) := by decide +kernel
theorem dL_law_447 : decode cL_law 447 = .ok (.ishr, 1) := by decide +kernel
theorem dL_law_448 : decode cL_law 448 = .ok (.bipush 20, 2) := by decide +kernel
theorem dL_law_450 : decode cL_law 450 = .ok (.invokestatic 8, 3) := by decide +kernel
theorem dL_law_453 : decode cL_law 453 = .ok (.iadd, 1) := by decide +kernel
theorem dL_law_454 : decode cL_law 454 = .ok (.aload_n 0, 1) := by decide +kernel
theorem dL_law_455 : decode cL_law 455 = .ok (.bipush 26, 2) := by decide +kernel
theorem dL_law_457 : decode cL_law 457 = .ok (.iload 8, 2) := by decide +kernel
theorem dL_law_459 : decode cL_law 459 = .ok (.iconst 4, 1) := by decide +kernel
theorem dL_law_460 : decode cL_law 460 = .ok (.irem, 1) := by decide +kernel
theorem dL_law_461 : decode cL_law 461 = .ok (.iadd, 1) := by decide +kernel
theorem dL_law_462 : decode cL_law 462 = .ok (.invokestatic 73, 3) := by decide +kernel
theorem dL_law_465 : decode cL_law 465 = .ok (.ldc 107, 2) := by decide +kernel
theorem dL_law_467 : decode cL_law 467 = .ok (.iand, 1) := by decide +kernel
theorem dL_law_468 : decode cL_law 468 = .ok (.invokestatic 108, 3) := by decide +kernel
theorem dL_law_471 : decode cL_law 471 = .ok (.ifCond .ne 5, 3) := by decide +kernel
theorem dL_law_474 : decode cL_law 474 = .ok (.iconst 0, 1) := by decide +kernel
theorem dL_law_475 : decode cL_law 475 = .ok (.ireturn, 1) := by decide +kernel
theorem dL_law_476 : decode cL_law 476 = .ok (.aload_n 1, 1) := by decide +kernel
theorem dL_law_477 : decode cL_law 477 = .ok (.aload_n 2, 1) := by decide +kernel
theorem dL_law_478 : decode cL_law 478 = .ok (.aload_n 3, 1) := by decide +kernel
theorem dL_law_479 : decode cL_law 479 = .ok (.invokestatic 92, 3) := by decide +kernel
theorem dL_law_482 : decode cL_law 482 = .ok (.ifCond .ne 5, 3) := by decide +kernel
theorem dL_law_485 : decode cL_law 485 = .ok (.iconst 0, 1) := by decide +kernel
theorem dL_law_486 : decode cL_law 486 = .ok (.ireturn, 1) := by decide +kernel
theorem dL_law_487 : decode cL_law 487 = .ok (.iinc 8 1, 3) := by decide +kernel
theorem dL_law_490 : decode cL_law 490 = .ok (.goto (-309), 3) := by decide +kernel
theorem dL_law_493 : decode cL_law 493 = .ok (.iconst 1, 1) := by decide +kernel
theorem dL_law_494 : decode cL_law 494 = .ok (.aload_n 2, 1) := by decide +kernel
theorem dL_law_495 : decode cL_law 495 = .ok (.iconst 0, 1) := by decide +kernel
theorem dL_law_496 : decode cL_law 496 = .ok (.iaload, 1) := by decide +kernel
theorem dL_law_497 : decode cL_law 497 = .ok (.ishl, 1) := by decide +kernel
theorem dL_law_498 : decode cL_law 498 = .ok (.istore 8, 2) := by decide +kernel
theorem dL_law_500 : decode cL_law 500 = .ok (.aload_n 1, 1) := by decide +kernel
theorem dL_law_501 : decode cL_law 501 = .ok (.aload_n 2, 1) := by decide +kernel
theorem dL_law_502 : decode cL_law 502 = .ok (.aload_n 3, 1) := by decide +kernel
theorem dL_law_503 : decode cL_law 503 = .ok (.aload 5, 2) := by decide +kernel
theorem dL_law_505 : decode cL_law 505 = .ok (.bipush 20, 2) := by decide +kernel
theorem dL_law_507 : decode cL_law 507 = .ok (.iconst 0, 1) := by decide +kernel
theorem dL_law_508 : decode cL_law 508 = .ok (.invokestatic 108, 3) := by decide +kernel
theorem dL_law_511 : decode cL_law 511 = .ok (.ifCond .eq 310, 3) := by decide +kernel
theorem dL_law_514 : decode cL_law 514 = .ok (.aload_n 1, 1) := by decide +kernel
theorem dL_law_515 : decode cL_law 515 = .ok (.aload_n 2, 1) := by decide +kernel
theorem dL_law_516 : decode cL_law 516 = .ok (.aload_n 3, 1) := by decide +kernel
theorem dL_law_517 : decode cL_law 517 = .ok (.aload 5, 2) := by decide +kernel
theorem dL_law_519 : decode cL_law 519 = .ok (.iconst 1, 1) := by decide +kernel
theorem dL_law_520 : decode cL_law 520 = .ok (.ldc 107, 2) := by decide +kernel
theorem dL_law_522 : decode cL_law 522 = .ok (.invokestatic 108, 3) := by decide +kernel
theorem dL_law_525 : decode cL_law 525 = .ok (.ifCond .eq 296, 3) := by decide +kernel
theorem dL_law_528 : decode cL_law 528 = .ok (.aload_n 1, 1) := by decide +kernel
theorem dL_law_529 : decode cL_law 529 = .ok (.aload_n 2, 1) := by decide +kernel
theorem dL_law_530 : decode cL_law 530 = .ok (.iconst 0, 1) := by decide +kernel
theorem dL_law_531 : decode cL_law 531 = .ok (.iaload, 1) := by decide +kernel
theorem dL_law_532 : decode cL_law 532 = .ok (.iconst 0, 1) := by decide +kernel
theorem dL_law_533 : decode cL_law 533 = .ok (.invokevirtual 50, 3) := by decide +kernel
theorem dL_law_536 : decode cL_law 536 = .ok (.bipush (-101), 2) := by decide +kernel
theorem dL_law_538 : decode cL_law 538 = .ok (.if_icmp .ne 283, 3) := by decide +kernel
theorem dL_law_541 : decode cL_law 541 = .ok (.aload_n 1, 1) := by decide +kernel
theorem dL_law_542 : decode cL_law 542 = .ok (.iconst (-1), 1) := by decide +kernel
theorem dL_law_543 : decode cL_law 543 = .ok (.iconst 0, 1) := by decide +kernel
theorem dL_law_544 : decode cL_law 544 = .ok (.invokevirtual 50, 3) := by decide +kernel
theorem dL_law_547 : decode cL_law 547 = .ok (.bipush (-101), 2) := by decide +kernel
theorem dL_law_549 : decode cL_law 549 = .ok (.if_icmp .ne 272, 3) := by decide +kernel
theorem dL_law_552 : decode cL_law 552 = .ok (.aload_n 1, 1) := by decide +kernel
theorem dL_law_553 : decode cL_law 553 = .ok (.iconst 0, 1) := by decide +kernel
theorem dL_law_554 : decode cL_law 554 = .ok (.iconst 5, 1) := by decide +kernel
theorem dL_law_555 : decode cL_law 555 = .ok (.invokevirtual 50, 3) := by decide +kernel
theorem dL_law_558 : decode cL_law 558 = .ok (.bipush (-102), 2) := by decide +kernel
theorem dL_law_560 : decode cL_law 560 = .ok (.if_icmp .ne 261, 3) := by decide +kernel
theorem dL_law_563 : decode cL_law 563 = .ok (.aload_n 1, 1) := by decide +kernel
theorem dL_law_564 : decode cL_law 564 = .ok (.aload_n 2, 1) := by decide +kernel
theorem dL_law_565 : decode cL_law 565 = .ok (.iconst 0, 1) := by decide +kernel
theorem dL_law_566 : decode cL_law 566 = .ok (.iaload, 1) := by decide +kernel
theorem dL_law_567 : decode cL_law 567 = .ok (.iconst 0, 1) := by decide +kernel
theorem dL_law_568 : decode cL_law 568 = .ok (.invokevirtual 96, 3) := by decide +kernel
theorem dL_law_571 : decode cL_law 571 = .ok (.bipush (-101), 2) := by decide +kernel
theorem dL_law_573 : decode cL_law 573 = .ok (.if_icmp .ne 248, 3) := by decide +kernel
theorem dL_law_576 : decode cL_law 576 = .ok (.aload_n 1, 1) := by decide +kernel
theorem dL_law_577 : decode cL_law 577 = .ok (.iconst 0, 1) := by decide +kernel
theorem dL_law_578 : decode cL_law 578 = .ok (.iconst 5, 1) := by decide +kernel
theorem dL_law_579 : decode cL_law 579 = .ok (.invokevirtual 96, 3) := by decide +kernel
theorem dL_law_582 : decode cL_law 582 = .ok (.bipush (-102), 2) := by decide +kernel
theorem dL_law_584 : decode cL_law 584 = .ok (.if_icmp .ne 237, 3) := by decide +kernel
theorem dL_law_587 : decode cL_law 587 = .ok (.aload_n 1, 1) := by decide +kernel
theorem dL_law_588 : decode cL_law 588 = .ok (.iconst 0, 1) := by decide +kernel
theorem dL_law_589 : decode cL_law 589 = .ok (.iconst 0, 1) := by decide +kernel
theorem dL_law_590 : decode cL_law 590 = .ok (.invokevirtual 53, 3) := by decide +kernel
theorem dL_law_593 : decode cL_law 593 = .ok (.bipush (-101), 2) := by decide +kernel
theorem dL_law_595 : decode cL_law 595 = .ok (.if_icmp .ne 226, 3) := by decide +kernel
theorem dL_law_598 : decode cL_law 598 = .ok (.aload_n 1, 1) := by decide +kernel
theorem dL_law_599 : decode cL_law 599 = .ok (.bipush 6, 2) := by decide +kernel
theorem dL_law_601 : decode cL_law 601 = .ok (.iconst 0, 1) := by decide +kernel
theorem dL_law_602 : decode cL_law 602 = .ok (.invokevirtual 53, 3) := by decide +kernel
theorem dL_law_605 : decode cL_law 605 = .ok (.bipush (-101), 2) := by decide +kernel
theorem dL_law_607 : decode cL_law 607 = .ok (.if_icmp .ne 214, 3) := by decide +kernel
theorem dL_law_610 : decode cL_law 610 = .ok (.aload_n 1, 1) := by decide +kernel
theorem dL_law_611 : decode cL_law 611 = .ok (.iconst 1, 1) := by decide +kernel
theorem dL_law_612 : decode cL_law 612 = .ok (.iconst 3, 1) := by decide +kernel
theorem dL_law_613 : decode cL_law 613 = .ok (.invokevirtual 53, 3) := by decide +kernel
theorem dL_law_616 : decode cL_law 616 = .ok (.bipush (-102), 2) := by decide +kernel
theorem dL_law_618 : decode cL_law 618 = .ok (.if_icmp .ne 203, 3) := by decide +kernel
theorem dL_law_621 : decode cL_law 621 = .ok (.aload_n 1, 1) := by decide +kernel
theorem dL_law_622 : decode cL_law 622 = .ok (.iconst 0, 1) := by decide +kernel
theorem dL_law_623 : decode cL_law 623 = .ok (.iconst 0, 1) := by decide +kernel
theorem dL_law_624 : decode cL_law 624 = .ok (.invokevirtual 66, 3) := by decide +kernel
theorem dL_law_627 : decode cL_law 627 = .ok (.bipush (-101), 2) := by decide +kernel
theorem dL_law_629 : decode cL_law 629 = .ok (.if_icmp .ne 192, 3) := by decide +kernel
theorem dL_law_632 : decode cL_law 632 = .ok (.aload_n 1, 1) := by decide +kernel
theorem dL_law_633 : decode cL_law 633 = .ok (.bipush 6, 2) := by decide +kernel
theorem dL_law_635 : decode cL_law 635 = .ok (.iconst 0, 1) := by decide +kernel
theorem dL_law_636 : decode cL_law 636 = .ok (.invokevirtual 66, 3) := by decide +kernel
theorem dL_law_639 : decode cL_law 639 = .ok (.bipush (-101), 2) := by decide +kernel
theorem dL_law_641 : decode cL_law 641 = .ok (.if_icmp .ne 180, 3) := by decide +kernel
theorem dL_law_644 : decode cL_law 644 = .ok (.aload_n 1, 1) := by decide +kernel
theorem dL_law_645 : decode cL_law 645 = .ok (.iconst 1, 1) := by decide +kernel
theorem dL_law_646 : decode cL_law 646 = .ok (.bipush 10, 2) := by decide +kernel
theorem dL_law_648 : decode cL_law 648 = .ok (.invokevirtual 66, 3) := by decide +kernel
theorem dL_law_651 : decode cL_law 651 = .ok (.bipush (-102), 2) := by decide +kernel
theorem dL_law_653 : decode cL_law 653 = .ok (.if_icmp .ne 168, 3) := by decide +kernel
theorem dL_law_656 : decode cL_law 656 = .ok (.aload_n 1, 1) := by decide +kernel
theorem dL_law_657 : decode cL_law 657 = .ok (.iconst 1, 1) := by decide +kernel
theorem dL_law_658 : decode cL_law 658 = .ok (.iconst (-1), 1) := by decide +kernel
theorem dL_law_659 : decode cL_law 659 = .ok (.invokevirtual 66, 3) := by decide +kernel
theorem dL_law_662 : decode cL_law 662 = .ok (.bipush (-102), 2) := by decide +kernel
theorem dL_law_664 : decode cL_law 664 = .ok (.if_icmp .ne 157, 3) := by decide +kernel
theorem dL_law_667 : decode cL_law 667 = .ok (.aload_n 1, 1) := by decide +kernel
theorem dL_law_668 : decode cL_law 668 = .ok (.iconst 0, 1) := by decide +kernel
theorem dL_law_669 : decode cL_law 669 = .ok (.iconst 1, 1) := by decide +kernel
theorem dL_law_670 : decode cL_law 670 = .ok (.iconst 0, 1) := by decide +kernel
theorem dL_law_671 : decode cL_law 671 = .ok (.invokevirtual 69, 3) := by decide +kernel
theorem dL_law_674 : decode cL_law 674 = .ok (.bipush (-102), 2) := by decide +kernel
theorem dL_law_676 : decode cL_law 676 = .ok (.if_icmp .ne 145, 3) := by decide +kernel
theorem dL_law_679 : decode cL_law 679 = .ok (.aload_n 1, 1) := by decide +kernel
theorem dL_law_680 : decode cL_law 680 = .ok (.iload 8, 2) := by decide +kernel
theorem dL_law_682 : decode cL_law 682 = .ok (.iconst 1, 1) := by decide +kernel
theorem dL_law_683 : decode cL_law 683 = .ok (.iconst 0, 1) := by decide +kernel
theorem dL_law_684 : decode cL_law 684 = .ok (.invokevirtual 69, 3) := by decide +kernel
theorem dL_law_687 : decode cL_law 687 = .ok (.bipush (-102), 2) := by decide +kernel
theorem dL_law_689 : decode cL_law 689 = .ok (.if_icmp .ne 132, 3) := by decide +kernel
theorem dL_law_692 : decode cL_law 692 = .ok (.aload_n 1, 1) := by decide +kernel
theorem dL_law_693 : decode cL_law 693 = .ok (.iconst 1, 1) := by decide +kernel
theorem dL_law_694 : decode cL_law 694 = .ok (.iconst 0, 1) := by decide +kernel
theorem dL_law_695 : decode cL_law 695 = .ok (.iconst 0, 1) := by decide +kernel
theorem dL_law_696 : decode cL_law 696 = .ok (.invokevirtual 69, 3) := by decide +kernel
theorem dL_law_699 : decode cL_law 699 = .ok (.bipush (-102), 2) := by decide +kernel
theorem dL_law_701 : decode cL_law 701 = .ok (.if_icmp .ne 120, 3) := by decide +kernel
theorem dL_law_704 : decode cL_law 704 = .ok (.aload_n 1, 1) := by decide +kernel
theorem dL_law_705 : decode cL_law 705 = .ok (.iconst 1, 1) := by decide +kernel
theorem dL_law_706 : decode cL_law 706 = .ok (.bipush 7, 2) := by decide +kernel
theorem dL_law_708 : decode cL_law 708 = .ok (.iconst 0, 1) := by decide +kernel
theorem dL_law_709 : decode cL_law 709 = .ok (.invokevirtual 69, 3) := by decide +kernel
theorem dL_law_712 : decode cL_law 712 = .ok (.bipush (-102), 2) := by decide +kernel
theorem dL_law_714 : decode cL_law 714 = .ok (.if_icmp .ne 107, 3) := by decide +kernel
theorem dL_law_717 : decode cL_law 717 = .ok (.aload_n 1, 1) := by decide +kernel
theorem dL_law_718 : decode cL_law 718 = .ok (.iconst 1, 1) := by decide +kernel
theorem dL_law_719 : decode cL_law 719 = .ok (.iconst 1, 1) := by decide +kernel
theorem dL_law_720 : decode cL_law 720 = .ok (.bipush 41, 2) := by decide +kernel
theorem dL_law_722 : decode cL_law 722 = .ok (.invokevirtual 69, 3) := by decide +kernel
theorem dL_law_725 : decode cL_law 725 = .ok (.bipush (-102), 2) := by decide +kernel
theorem dL_law_727 : decode cL_law 727 = .ok (.if_icmp .ne 94, 3) := by decide +kernel
theorem dL_law_730 : decode cL_law 730 = .ok (.aload_n 1, 1) := by decide +kernel
theorem dL_law_731 : decode cL_law 731 = .ok (.iconst 1, 1) := by decide +kernel
theorem dL_law_732 : decode cL_law 732 = .ok (.iconst 1, 1) := by decide +kernel
theorem dL_law_733 : decode cL_law 733 = .ok (.iconst (-1), 1) := by decide +kernel
theorem dL_law_734 : decode cL_law 734 = .ok (.invokevirtual 69, 3) := by decide +kernel
theorem dL_law_737 : decode cL_law 737 = .ok (.bipush (-102), 2) := by decide +kernel
theorem dL_law_739 : decode cL_law 739 = .ok (.if_icmp .ne 82, 3) := by decide +kernel
theorem dL_law_742 : decode cL_law 742 = .ok (.aload_n 1, 1) := by decide +kernel
theorem dL_law_743 : decode cL_law 743 = .ok (.iconst 0, 1) := by decide +kernel
theorem dL_law_744 : decode cL_law 744 = .ok (.iconst 1, 1) := by decide +kernel
theorem dL_law_745 : decode cL_law 745 = .ok (.iconst 0, 1) := by decide +kernel
theorem dL_law_746 : decode cL_law 746 = .ok (.iconst 0, 1) := by decide +kernel
theorem dL_law_747 : decode cL_law 747 = .ok (.invokevirtual 103, 3) := by decide +kernel
theorem dL_law_750 : decode cL_law 750 = .ok (.bipush (-102), 2) := by decide +kernel
theorem dL_law_752 : decode cL_law 752 = .ok (.if_icmp .ne 69, 3) := by decide +kernel
theorem dL_law_755 : decode cL_law 755 = .ok (.aload_n 1, 1) := by decide +kernel
theorem dL_law_756 : decode cL_law 756 = .ok (.iconst 1, 1) := by decide +kernel
theorem dL_law_757 : decode cL_law 757 = .ok (.iconst 1, 1) := by decide +kernel
theorem dL_law_758 : decode cL_law 758 = .ok (.iconst 0, 1) := by decide +kernel
theorem dL_law_759 : decode cL_law 759 = .ok (.iconst 4, 1) := by decide +kernel
theorem dL_law_760 : decode cL_law 760 = .ok (.invokevirtual 103, 3) := by decide +kernel
theorem dL_law_763 : decode cL_law 763 = .ok (.bipush (-102), 2) := by decide +kernel
theorem dL_law_765 : decode cL_law 765 = .ok (.if_icmp .ne 56, 3) := by decide +kernel
theorem dL_law_768 : decode cL_law 768 = .ok (.aload_n 1, 1) := by decide +kernel
theorem dL_law_769 : decode cL_law 769 = .ok (.iconst 0, 1) := by decide +kernel
theorem dL_law_770 : decode cL_law 770 = .ok (.iconst 0, 1) := by decide +kernel
theorem dL_law_771 : decode cL_law 771 = .ok (.iconst 0, 1) := by decide +kernel
theorem dL_law_772 : decode cL_law 772 = .ok (.invokevirtual 112, 3) := by decide +kernel
theorem dL_law_775 : decode cL_law 775 = .ok (.bipush (-102), 2) := by decide +kernel
theorem dL_law_777 : decode cL_law 777 = .ok (.if_icmp .ne 44, 3) := by decide +kernel
theorem dL_law_780 : decode cL_law 780 = .ok (.aload_n 1, 1) := by decide +kernel
theorem dL_law_781 : decode cL_law 781 = .ok (.bipush 21, 2) := by decide +kernel
theorem dL_law_783 : decode cL_law 783 = .ok (.iconst 0, 1) := by decide +kernel
theorem dL_law_784 : decode cL_law 784 = .ok (.iconst 0, 1) := by decide +kernel
theorem dL_law_785 : decode cL_law 785 = .ok (.invokevirtual 112, 3) := by decide +kernel
theorem dL_law_788 : decode cL_law 788 = .ok (.bipush (-102), 2) := by decide +kernel
theorem dL_law_790 : decode cL_law 790 = .ok (.if_icmp .ne 31, 3) := by decide +kernel
theorem dL_law_793 : decode cL_law 793 = .ok (.aload_n 1, 1) := by decide +kernel
theorem dL_law_794 : decode cL_law 794 = .ok (.iconst 1, 1) := by decide +kernel
theorem dL_law_795 : decode cL_law 795 = .ok (.iconst (-1), 1) := by decide +kernel
theorem dL_law_796 : decode cL_law 796 = .ok (.iconst 0, 1) := by decide +kernel
theorem dL_law_797 : decode cL_law 797 = .ok (.invokevirtual 112, 3) := by decide +kernel
theorem dL_law_800 : decode cL_law 800 = .ok (.bipush (-102), 2) := by decide +kernel
theorem dL_law_802 : decode cL_law 802 = .ok (.if_icmp .ne 19, 3) := by decide +kernel
theorem dL_law_805 : decode cL_law 805 = .ok (.aload_n 1, 1) := by decide +kernel
theorem dL_law_806 : decode cL_law 806 = .ok (.iconst 1, 1) := by decide +kernel
theorem dL_law_807 : decode cL_law 807 = .ok (.iconst 0, 1) := by decide +kernel
theorem dL_law_808 : decode cL_law 808 = .ok (.iconst 3, 1) := by decide +kernel
theorem dL_law_809 : decode cL_law 809 = .ok (.invokevirtual 112, 3) := by decide +kernel
theorem dL_law_812 : decode cL_law 812 = .ok (.bipush (-102), 2) := by decide +kernel
theorem dL_law_814 : decode cL_law 814 = .ok (.if_icmp .ne 7, 3) := by decide +kernel
theorem dL_law_817 : decode cL_law 817 = .ok (.iconst 1, 1) := by decide +kernel
theorem dL_law_818 : decode cL_law 818 = .ok (.goto 4, 3) := by decide +kernel
theorem dL_law_821 : decode cL_law 821 = .ok (.iconst 0, 1) := by decide +kernel
theorem dL_law_822 : decode cL_law 822 = .ok (.ireturn, 1) := by decide +kernel
theorem dL_winters_0 : decode cL_winters 0 = .ok (.bipush 9, 2) := by decide +kernel
theorem dL_winters_2 : decode cL_winters 2 = .ok (.newarray .int, 2) := by decide +kernel
theorem dL_winters_4 : decode cL_winters 4 = .ok (.astore 6, 2) := by decide +kernel
theorem dL_winters_6 : decode cL_winters 6 = .ok (.bipush 9, 2) := by decide +kernel
theorem dL_winters_8 : decode cL_winters 8 = .ok (.newarray .int, 2) := by decide +kernel
theorem dL_winters_10 : decode cL_winters 10 = .ok (.astore 7, 2) := by decide +kernel
theorem dL_winters_12 : decode cL_winters 12 = .ok (.aload 6, 2) := by decide +kernel
theorem dL_winters_14 : decode cL_winters 14 = .ok (.aload_n 2, 1) := by decide +kernel
theorem dL_winters_15 : decode cL_winters 15 = .ok (.invokestatic 34, 3) := by decide +kernel
theorem dL_winters_18 : decode cL_winters 18 = .ok (.iload 5, 2) := by decide +kernel
theorem dL_winters_20 : decode cL_winters 20 = .ok (.i2l, 1) := by decide +kernel
theorem dL_winters_21 : decode cL_winters 21 = .ok (.lstore 8, 2) := by decide +kernel
theorem dL_winters_23 : decode cL_winters 23 = .ok (.iconst 0, 1) := by decide +kernel
theorem dL_winters_24 : decode cL_winters 24 = .ok (.istore 10, 2) := by decide +kernel
theorem dL_winters_26 : decode cL_winters 26 = .ok (.iload 10, 2) := by decide +kernel
theorem dL_winters_28 : decode cL_winters 28 = .ok (.iload 4, 2) := by decide +kernel
theorem dL_winters_30 : decode cL_winters 30 = .ok (.if_icmp .ge 74, 3) := by decide +kernel
theorem dL_winters_33 : decode cL_winters 33 = .ok (.iconst 1, 1) := by decide +kernel
theorem dL_winters_34 : decode cL_winters 34 = .ok (.istore 11, 2) := by decide +kernel
theorem dL_winters_36 : decode cL_winters 36 = .ok (.iload 11, 2) := by decide +kernel
theorem dL_winters_38 : decode cL_winters 38 = .ok (.bipush 6, 2) := by decide +kernel
theorem dL_winters_40 : decode cL_winters 40 = .ok (.if_icmp .ge 58, 3) := by decide +kernel
theorem dL_winters_43 : decode cL_winters 43 = .ok (.lload 8, 2) := by decide +kernel
theorem dL_winters_45 : decode cL_winters 45 = .ok (.ldc2_w 114, 3) := by decide +kernel
theorem dL_winters_48 : decode cL_winters 48 = .ok (.lmul, 1) := by decide +kernel
theorem dL_winters_49 : decode cL_winters 49 = .ok (.ldc2_w 116, 3) := by decide +kernel
theorem dL_winters_52 : decode cL_winters 52 = .ok (.ladd, 1) := by decide +kernel
theorem dL_winters_53 : decode cL_winters 53 = .ok (.ldc2_w 118, 3) := by decide +kernel
theorem dL_winters_56 : decode cL_winters 56 = .ok (.lrem, 1) := by decide +kernel
theorem dL_winters_57 : decode cL_winters 57 = .ok (.lstore 8, 2) := by decide +kernel
theorem dL_winters_59 : decode cL_winters 59 = .ok (.aload 6, 2) := by decide +kernel
theorem dL_winters_61 : decode cL_winters 61 = .ok (.iload 11, 2) := by decide +kernel
theorem dL_winters_63 : decode cL_winters 63 = .ok (.dup2, 1) := by decide +kernel
theorem dL_winters_64 : decode cL_winters 64 = .ok (.iaload, 1) := by decide +kernel
theorem dL_winters_65 : decode cL_winters 65 = .ok (.lload 8, 2) := by decide +kernel
theorem dL_winters_67 : decode cL_winters 67 = .ok (.ldc2_w 120, 3) := by decide +kernel
theorem dL_winters_70 : decode cL_winters 70 = .ok (.ldiv, 1) := by decide +kernel
theorem dL_winters_71 : decode cL_winters 71 = .ok (.ldc2_w 122, 3) := by decide +kernel
theorem dL_winters_74 : decode cL_winters 74 = .ok (.lrem, 1) := by decide +kernel
theorem dL_winters_75 : decode cL_winters 75 = .ok (.l2i, 1) := by decide +kernel
theorem dL_winters_76 : decode cL_winters 76 = .ok (.isub, 1) := by decide +kernel
theorem dL_winters_77 : decode cL_winters 77 = .ok (.iastore, 1) := by decide +kernel
theorem dL_winters_78 : decode cL_winters 78 = .ok (.aload 6, 2) := by decide +kernel
theorem dL_winters_80 : decode cL_winters 80 = .ok (.iload 11, 2) := by decide +kernel
theorem dL_winters_82 : decode cL_winters 82 = .ok (.iaload, 1) := by decide +kernel
theorem dL_winters_83 : decode cL_winters 83 = .ok (.ifCond .ge 9, 3) := by decide +kernel
theorem dL_winters_86 : decode cL_winters 86 = .ok (.aload 6, 2) := by decide +kernel
theorem dL_winters_88 : decode cL_winters 88 = .ok (.iload 11, 2) := by decide +kernel
theorem dL_winters_90 : decode cL_winters 90 = .ok (.iconst 0, 1) := by decide +kernel
theorem dL_winters_91 : decode cL_winters 91 = .ok (.iastore, 1) := by decide +kernel
theorem dL_winters_92 : decode cL_winters 92 = .ok (.iinc 11 1, 3) := by decide +kernel
theorem dL_winters_95 : decode cL_winters 95 = .ok (.goto (-59), 3) := by decide +kernel
theorem dL_winters_98 : decode cL_winters 98 = .ok (.iinc 10 1, 3) := by decide +kernel
theorem dL_winters_101 : decode cL_winters 101 = .ok (.goto (-75), 3) := by decide +kernel
theorem dL_winters_104 : decode cL_winters 104 = .ok (.aload_n 0, 1) := by decide +kernel
theorem dL_winters_105 : decode cL_winters 105 = .ok (.iload 4, 2) := by decide +kernel
theorem dL_winters_107 : decode cL_winters 107 = .ok (.iload 5, 2) := by decide +kernel
theorem dL_winters_109 : decode cL_winters 109 = .ok (.iconst 0, 1) := by decide +kernel
theorem dL_winters_110 : decode cL_winters 110 = .ok (.invokevirtual 112, 3) := by decide +kernel
theorem dL_winters_113 : decode cL_winters 113 = .ok (.aload 6, 2) := by decide +kernel
theorem dL_winters_115 : decode cL_winters 115 = .ok (.invokestatic 62, 3) := by decide +kernel
theorem dL_winters_118 : decode cL_winters 118 = .ok (.if_icmp .ne 61, 3) := by decide +kernel
theorem dL_winters_121 : decode cL_winters 121 = .ok (.aload_n 0, 1) := by decide +kernel
theorem dL_winters_122 : decode cL_winters 122 = .ok (.iload 4, 2) := by decide +kernel
theorem dL_winters_124 : decode cL_winters 124 = .ok (.iload 5, 2) := by decide +kernel
theorem dL_winters_126 : decode cL_winters 126 = .ok (.iconst 1, 1) := by decide +kernel
theorem dL_winters_127 : decode cL_winters 127 = .ok (.invokevirtual 112, 3) := by decide +kernel
theorem dL_winters_130 : decode cL_winters 130 = .ok (.aload 6, 2) := by decide +kernel
theorem dL_winters_132 : decode cL_winters 132 = .ok (.bipush 6, 2) := by decide +kernel
theorem dL_winters_134 : decode cL_winters 134 = .ok (.iaload, 1) := by decide +kernel
theorem dL_winters_135 : decode cL_winters 135 = .ok (.ifCond .ne 7, 3) := by decide +kernel
theorem dL_winters_138 : decode cL_winters 138 = .ok (.iconst 0, 1) := by decide +kernel
theorem dL_winters_139 : decode cL_winters 139 = .ok (.goto 17, 3) := by decide +kernel
theorem dL_winters_142 : decode cL_winters 142 = .ok (.aload_n 1, 1) := by decide +kernel
theorem dL_winters_143 : decode cL_winters 143 = .ok (.aload 6, 2) := by decide +kernel
theorem dL_winters_145 : decode cL_winters 145 = .ok (.aload 7, 2) := by decide +kernel
theorem dL_winters_147 : decode cL_winters 147 = .ok (.aload_n 3, 1) := by decide +kernel
theorem dL_winters_148 : decode cL_winters 148 = .ok (.aload 6, 2) := by decide +kernel
theorem dL_winters_150 : decode cL_winters 150 = .ok (.bipush 6, 2) := by decide +kernel
theorem dL_winters_152 : decode cL_winters 152 = .ok (.iaload, 1) := by decide +kernel
theorem dL_winters_153 : decode cL_winters 153 = .ok (.invokestatic 124, 3) := by decide +kernel
theorem dL_winters_156 : decode cL_winters 156 = .ok (.if_icmp .ne 23, 3) := by decide +kernel
theorem dL_winters_159 : decode cL_winters 159 = .ok (.aload_n 0, 1) := by decide +kernel
theorem dL_winters_160 : decode cL_winters 160 = .ok (.iload 4, 2) := by decide +kernel
theorem dL_winters_162 : decode cL_winters 162 = .ok (.iload 5, 2) := by decide +kernel
theorem dL_winters_164 : decode cL_winters 164 = .ok (.iconst 2, 1) := by decide +kernel
theorem dL_winters_165 : decode cL_winters 165 = .ok (.invokevirtual 112, 3) := by decide +kernel
theorem dL_winters_168 : decode cL_winters 168 = .ok (.i2l, 1) := by decide +kernel
theorem dL_winters_169 : decode cL_winters 169 = .ok (.lload 8, 2) := by decide +kernel
theorem dL_winters_171 : decode cL_winters 171 = .ok (.lcmp, 1) := by decide +kernel
theorem dL_winters_172 : decode cL_winters 172 = .ok (.ifCond .ne 7, 3) := by decide +kernel
theorem dL_winters_175 : decode cL_winters 175 = .ok (.iconst 1, 1) := by decide +kernel
theorem dL_winters_176 : decode cL_winters 176 = .ok (.goto 4, 3) := by decide +kernel
theorem dL_winters_179 : decode cL_winters 179 = .ok (.iconst 0, 1) := by decide +kernel
theorem dL_winters_180 : decode cL_winters 180 = .ok (.ireturn, 1) := by decide +kernel
