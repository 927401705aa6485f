theorem dL_cell_0 : decode cL_cell 0 = .ok (.iload_n 1, 1) := by decide +kernel
theorem dL_cell_1 : decode cL_cell 1 = .ok (.aload_n 0, 1) := by decide +kernel
theorem dL_cell_2 : decode cL_cell 2 = .ok (.arraylength, 1) := by decide +kernel
theorem dL_cell_3 : decode cL_cell 3 = .ok (.if_icmp .ge 9, 3) := by decide +kernel
theorem dL_cell_6 : decode cL_cell 6 = .ok (.aload_n 0, 1) := by decide +kernel
theorem dL_cell_7 : decode cL_cell 7 = .ok (.iload_n 1, 1) := by decide +kernel
theorem dL_cell_8 : decode cL_cell 8 = .ok (.iaload, 1) := by decide +kernel
theorem dL_cell_9 : decode cL_cell 9 = .ok (.goto 11, 3) := by decide +kernel
theorem dL_cell_12 : decode cL_cell 12 = .ok (.ldc 7, 2) := by decide +kernel
theorem dL_cell_14 : decode cL_cell 14 = .ok (.iload_n 1, 1) := by decide +kernel
theorem dL_cell_15 : decode cL_cell 15 = .ok (.sipush 1367, 3) := by decide +kernel
theorem dL_cell_18 : decode cL_cell 18 = .ok (.iadd, 1) := by decide +kernel
theorem dL_cell_19 : decode cL_cell 19 = .ok (.imul, 1) := by decide +kernel
theorem dL_cell_20 : decode cL_cell 20 = .ok (.ireturn, 1) := by decide +kernel
theorem dL_up_0 : decode cL_up 0 = .ok (.iload_n 0, 1) := by decide +kernel
theorem dL_up_1 : decode cL_up 1 = .ok (.ldc 8, 2) := by decide +kernel
theorem dL_up_3 : decode cL_up 3 = .ok (.iand, 1) := by decide +kernel
theorem dL_up_4 : decode cL_up 4 = .ok (.iload_n 1, 1) := by decide +kernel
theorem dL_up_5 : decode cL_up 5 = .ok (.irem, 1) := by decide +kernel
theorem dL_up_6 : decode cL_up 6 = .ok (.ireturn, 1) := by decide +kernel
theorem dL_number_0 : decode cL_number 0 = .ok (.iload_n 1, 1) := by decide +kernel
theorem dL_number_1 : decode cL_number 1 = .ok (.bipush 10, 2) := by decide +kernel
theorem dL_number_3 : decode cL_number 3 = .ok (.if_icmp .lt 18, 3) := by decide +kernel
theorem dL_number_6 : decode cL_number 6 = .ok (.aload_n 0, 1) := by decide +kernel
theorem dL_number_7 : decode cL_number 7 = .ok (.bipush 48, 2) := by decide +kernel
theorem dL_number_9 : decode cL_number 9 = .ok (.iload_n 1, 1) := by decide +kernel
theorem dL_number_10 : decode cL_number 10 = .ok (.bipush 10, 2) := by decide +kernel
theorem dL_number_12 : decode cL_number 12 = .ok (.idiv, 1) := by decide +kernel
theorem dL_number_13 : decode cL_number 13 = .ok (.iadd, 1) := by decide +kernel
theorem dL_number_14 : decode cL_number 14 = .ok (.i2l, 1) := by decide +kernel
theorem dL_number_15 : decode cL_number 15 = .ok (.invokevirtual 9, 3) := by decide +kernel
theorem dL_number_18 : decode cL_number 18 = .ok (.ifCond .le 22, 3) := by decide +kernel
theorem dL_number_21 : decode cL_number 21 = .ok (.aload_n 0, 1) := by decide +kernel
theorem dL_number_22 : decode cL_number 22 = .ok (.bipush 48, 2) := by decide +kernel
theorem dL_number_24 : decode cL_number 24 = .ok (.iload_n 1, 1) := by decide +kernel
theorem dL_number_25 : decode cL_number 25 = .ok (.bipush 10, 2) := by decide +kernel
theorem dL_number_27 : decode cL_number 27 = .ok (.irem, 1) := by decide +kernel
theorem dL_number_28 : decode cL_number 28 = .ok (.iadd, 1) := by decide +kernel
theorem dL_number_29 : decode cL_number 29 = .ok (.i2l, 1) := by decide +kernel
theorem dL_number_30 : decode cL_number 30 = .ok (.invokevirtual 9, 3) := by decide +kernel
theorem dL_number_33 : decode cL_number 33 = .ok (.ifCond .le 7, 3) := by decide +kernel
theorem dL_number_36 : decode cL_number 36 = .ok (.iconst 1, 1) := by decide +kernel
theorem dL_number_37 : decode cL_number 37 = .ok (.goto 4, 3) := by decide +kernel
theorem dL_number_40 : decode cL_number 40 = .ok (.iconst 0, 1) := by decide +kernel
theorem dL_number_41 : decode cL_number 41 = .ok (.ireturn, 1) := by decide +kernel
theorem dL_through_0 : decode cL_through 0 = .ok (.aload_n 0, 1) := by decide +kernel
theorem dL_through_1 : decode cL_through 1 = .ok (.iload_n 1, 1) := by decide +kernel
theorem dL_through_2 : decode cL_through 2 = .ok (.iconst 5, 1) := by decide +kernel
theorem dL_through_3 : decode cL_through 3 = .ok (.invokevirtual 15, 3) := by decide +kernel
theorem dL_through_6 : decode cL_through 6 = .ok (.aload_n 0, 1) := by decide +kernel
theorem dL_through_7 : decode cL_through 7 = .ok (.iload_n 1, 1) := by decide +kernel
theorem dL_through_8 : decode cL_through 8 = .ok (.bipush 6, 2) := by decide +kernel
theorem dL_through_10 : decode cL_through 10 = .ok (.invokevirtual 15, 3) := by decide +kernel
theorem dL_through_13 : decode cL_through 13 = .ok (.iadd, 1) := by decide +kernel
theorem dL_through_14 : decode cL_through 14 = .ok (.ireturn, 1) := by decide +kernel
theorem dL_ended_0 : decode cL_ended 0 = .ok (.aload_n 0, 1) := by decide +kernel
theorem dL_ended_1 : decode cL_ended 1 = .ok (.bipush 8, 2) := by decide +kernel
theorem dL_ended_3 : decode cL_ended 3 = .ok (.invokevirtual 19, 3) := by decide +kernel
theorem dL_ended_6 : decode cL_ended 6 = .ok (.aload_n 0, 1) := by decide +kernel
theorem dL_ended_7 : decode cL_ended 7 = .ok (.bipush 9, 2) := by decide +kernel
theorem dL_ended_9 : decode cL_ended 9 = .ok (.invokevirtual 19, 3) := by decide +kernel
theorem dL_ended_12 : decode cL_ended 12 = .ok (.iadd, 1) := by decide +kernel
theorem dL_ended_13 : decode cL_ended 13 = .ok (.aload_n 0, 1) := by decide +kernel
theorem dL_ended_14 : decode cL_ended 14 = .ok (.bipush 10, 2) := by decide +kernel
theorem dL_ended_16 : decode cL_ended 16 = .ok (.invokevirtual 19, 3) := by decide +kernel
theorem dL_ended_19 : decode cL_ended 19 = .ok (.iadd, 1) := by decide +kernel
theorem dL_ended_20 : decode cL_ended 20 = .ok (.aload_n 0, 1) := by decide +kernel
theorem dL_ended_21 : decode cL_ended 21 = .ok (.bipush 11, 2) := by decide +kernel
theorem dL_ended_23 : decode cL_ended 23 = .ok (.invokevirtual 19, 3) := by decide +kernel
theorem dL_ended_26 : decode cL_ended 26 = .ok (.iadd, 1) := by decide +kernel
theorem dL_ended_27 : decode cL_ended 27 = .ok (.ireturn, 1) := by decide +kernel
theorem dL_areAlike_0 : decode cL_areAlike 0 = .ok (.aload_n 0, 1) := by decide +kernel
theorem dL_areAlike_1 : decode cL_areAlike 1 = .ok (.invokevirtual 31, 3) := by decide +kernel
theorem dL_areAlike_4 : decode cL_areAlike 4 = .ok (.aload_n 1, 1) := by decide +kernel
theorem dL_areAlike_5 : decode cL_areAlike 5 = .ok (.invokevirtual 31, 3) := by decide +kernel
theorem dL_areAlike_8 : decode cL_areAlike 8 = .ok (.if_icmp .ne 7, 3) := by decide +kernel
theorem dL_areAlike_11 : decode cL_areAlike 11 = .ok (.iconst 1, 1) := by decide +kernel
theorem dL_areAlike_12 : decode cL_areAlike 12 = .ok (.goto 4, 3) := by decide +kernel
theorem dL_areAlike_15 : decode cL_areAlike 15 = .ok (.iconst 0, 1) := by decide +kernel
theorem dL_areAlike_16 : decode cL_areAlike 16 = .ok (.istore_n 2, 1) := by decide +kernel
theorem dL_areAlike_17 : decode cL_areAlike 17 = .ok (.iconst 0, 1) := by decide +kernel
theorem dL_areAlike_18 : decode cL_areAlike 18 = .ok (.istore_n 3, 1) := by decide +kernel
theorem dL_areAlike_19 : decode cL_areAlike 19 = .ok (.iload_n 3, 1) := by decide +kernel
theorem dL_areAlike_20 : decode cL_areAlike 20 = .ok (.bipush 14, 2) := by decide +kernel
theorem dL_areAlike_22 : decode cL_areAlike 22 = .ok (.if_icmp .ge 32, 3) := by decide +kernel
theorem dL_areAlike_25 : decode cL_areAlike 25 = .ok (.iload_n 2, 1) := by decide +kernel
theorem dL_areAlike_26 : decode cL_areAlike 26 = .ok (.ifCond .eq 20, 3) := by decide +kernel
theorem dL_areAlike_29 : decode cL_areAlike 29 = .ok (.aload_n 0, 1) := by decide +kernel
theorem dL_areAlike_30 : decode cL_areAlike 30 = .ok (.iload_n 3, 1) := by decide +kernel
theorem dL_areAlike_31 : decode cL_areAlike 31 = .ok (.invokevirtual 19, 3) := by decide +kernel
theorem dL_areAlike_34 : decode cL_areAlike 34 = .ok (.aload_n 1, 1) := by decide +kernel
theorem dL_areAlike_35 : decode cL_areAlike 35 = .ok (.iload_n 3, 1) := by decide +kernel
theorem dL_areAlike_36 : decode cL_areAlike 36 = .ok (.invokevirtual 19, 3) := by decide +kernel
theorem dL_areAlike_39 : decode cL_areAlike 39 = .ok (.if_icmp .ne 7, 3) := by decide +kernel
theorem dL_areAlike_42 : decode cL_areAlike 42 = .ok (.iconst 1, 1) := by decide +kernel
theorem dL_areAlike_43 : decode cL_areAlike 43 = .ok (.goto 4, 3) := by decide +kernel
theorem dL_areAlike_46 : decode cL_areAlike 46 = .ok (.iconst 0, 1) := by decide +kernel
theorem dL_areAlike_47 : decode cL_areAlike 47 = .ok (.istore_n 2, 1) := by decide +kernel
theorem dL_areAlike_48 : decode cL_areAlike 48 = .ok (.iinc 3 1, 3) := by decide +kernel
theorem dL_areAlike_51 : decode cL_areAlike 51 = .ok (.goto (-32), 3) := by decide +kernel
theorem dL_areAlike_54 : decode cL_areAlike 54 = .ok (.iconst 0, 1) := by decide +kernel
theorem dL_areAlike_55 : decode cL_areAlike 55 = .ok (.istore_n 3, 1) := by decide +kernel
theorem dL_areAlike_56 : decode cL_areAlike 56 = .ok (.iconst 0, 1) := by decide +kernel
theorem dL_areAlike_57 : decode cL_areAlike 57 = .ok (.istore 4, 2) := by decide +kernel
theorem dL_areAlike_59 : decode cL_areAlike 59 = .ok (.iconst 0, 1) := by decide +kernel
theorem dL_areAlike_60 : decode cL_areAlike 60 = .ok (.istore 5, 2) := by decide +kernel
theorem dL_areAlike_62 : decode cL_areAlike 62 = .ok (.iload 5, 2) := by decide +kernel
theorem dL_areAlike_64 : decode cL_areAlike 64 = .ok (.bipush 6, 2) := by decide +kernel
theorem dL_areAlike_66 : decode cL_areAlike 66 = .ok (.if_icmp .ge 148, 3) := by decide +kernel
theorem dL_areAlike_69 : decode cL_areAlike 69 = .ok (.iload_n 3, 1) := by decide +kernel
theorem dL_areAlike_70 : decode cL_areAlike 70 = .ok (.aload_n 1, 1) := by decide +kernel
theorem dL_areAlike_71 : decode cL_areAlike 71 = .ok (.bipush 14, 2) := by decide +kernel
theorem dL_areAlike_73 : decode cL_areAlike 73 = .ok (.invokevirtual 19, 3) := by decide +kernel
theorem dL_areAlike_76 : decode cL_areAlike 76 = .ok (.iload 5, 2) := by decide +kernel
theorem dL_areAlike_78 : decode cL_areAlike 78 = .ok (.ishr, 1) := by decide +kernel
theorem dL_areAlike_79 : decode cL_areAlike 79 = .ok (.iconst 1, 1) := by decide +kernel
theorem dL_areAlike_80 : decode cL_areAlike 80 = .ok (.iand, 1) := by decide +kernel
theorem dL_areAlike_81 : decode cL_areAlike 81 = .ok (.iconst 5, 1) := by decide +kernel
theorem dL_areAlike_82 : decode cL_areAlike 82 = .ok (.iload 5, 2) := by decide +kernel
theorem dL_areAlike_84 : decode cL_areAlike 84 = .ok (.isub, 1) := by decide +kernel
theorem dL_areAlike_85 : decode cL_areAlike 85 = .ok (.ishl, 1) := by decide +kernel
theorem dL_areAlike_86 : decode cL_areAlike 86 = .ok (.ior, 1) := by decide +kernel
theorem dL_areAlike_87 : decode cL_areAlike 87 = .ok (.istore_n 3, 1) := by decide +kernel
theorem dL_areAlike_88 : decode cL_areAlike 88 = .ok (.iload 4, 2) := by decide +kernel
theorem dL_areAlike_90 : decode cL_areAlike 90 = .ok (.aload_n 1, 1) := by decide +kernel
theorem dL_areAlike_91 : decode cL_areAlike 91 = .ok (.bipush 15, 2) := by decide +kernel
theorem dL_areAlike_93 : decode cL_areAlike 93 = .ok (.invokevirtual 19, 3) := by decide +kernel
theorem dL_areAlike_96 : decode cL_areAlike 96 = .ok (.iload 5, 2) := by decide +kernel
theorem dL_areAlike_98 : decode cL_areAlike 98 = .ok (.ishr, 1) := by decide +kernel
theorem dL_areAlike_99 : decode cL_areAlike 99 = .ok (.iconst 1, 1) := by decide +kernel
theorem dL_areAlike_100 : decode cL_areAlike 100 = .ok (.iand, 1) := by decide +kernel
theorem dL_areAlike_101 : decode cL_areAlike 101 = .ok (.iconst 5, 1) := by decide +kernel
theorem dL_areAlike_102 : decode cL_areAlike 102 = .ok (.iload 5, 2) := by decide +kernel
theorem dL_areAlike_104 : decode cL_areAlike 104 = .ok (.isub, 1) := by decide +kernel
theorem dL_areAlike_105 : decode cL_areAlike 105 = .ok (.ishl, 1) := by decide +kernel
theorem dL_areAlike_106 : decode cL_areAlike 106 = .ok (.ior, 1) := by decide +kernel
theorem dL_areAlike_107 : decode cL_areAlike 107 = .ok (.istore 4, 2) := by decide +kernel
theorem dL_areAlike_109 : decode cL_areAlike 109 = .ok (.iload_n 2, 1) := by decide +kernel
theorem dL_areAlike_110 : decode cL_areAlike 110 = .ok (.ifCond .eq 24, 3) := by decide +kernel
theorem dL_areAlike_113 : decode cL_areAlike 113 = .ok (.aload_n 0, 1) := by decide +kernel
theorem dL_areAlike_114 : decode cL_areAlike 114 = .ok (.iload 5, 2) := by decide +kernel
theorem dL_areAlike_116 : decode cL_areAlike 116 = .ok (.invokevirtual 79, 3) := by decide +kernel
theorem dL_areAlike_119 : decode cL_areAlike 119 = .ok (.aload_n 1, 1) := by decide +kernel
theorem dL_areAlike_120 : decode cL_areAlike 120 = .ok (.iconst 5, 1) := by decide +kernel
theorem dL_areAlike_121 : decode cL_areAlike 121 = .ok (.iload 5, 2) := by decide +kernel
theorem dL_areAlike_123 : decode cL_areAlike 123 = .ok (.isub, 1) := by decide +kernel
theorem dL_areAlike_124 : decode cL_areAlike 124 = .ok (.invokevirtual 79, 3) := by decide +kernel
theorem dL_areAlike_127 : decode cL_areAlike 127 = .ok (.if_icmp .ne 7, 3) := by decide +kernel
theorem dL_areAlike_130 : decode cL_areAlike 130 = .ok (.iconst 1, 1) := by decide +kernel
theorem dL_areAlike_131 : decode cL_areAlike 131 = .ok (.goto 4, 3) := by decide +kernel
theorem dL_areAlike_134 : decode cL_areAlike 134 = .ok (.iconst 0, 1) := by decide +kernel
theorem dL_areAlike_135 : decode cL_areAlike 135 = .ok (.istore_n 2, 1) := by decide +kernel
theorem dL_areAlike_136 : decode cL_areAlike 136 = .ok (.iconst 0, 1) := by decide +kernel
theorem dL_areAlike_137 : decode cL_areAlike 137 = .ok (.istore 6, 2) := by decide +kernel
theorem dL_areAlike_139 : decode cL_areAlike 139 = .ok (.iload 6, 2) := by decide +kernel
theorem dL_areAlike_141 : decode cL_areAlike 141 = .ok (.bipush 13, 2) := by decide +kernel
theorem dL_areAlike_143 : decode cL_areAlike 143 = .ok (.if_icmp .ge 65, 3) := by decide +kernel
theorem dL_areAlike_146 : decode cL_areAlike 146 = .ok (.iload_n 2, 1) := by decide +kernel
theorem dL_areAlike_147 : decode cL_areAlike 147 = .ok (.ifCond .eq 53, 3) := by decide +kernel
theorem dL_areAlike_150 : decode cL_areAlike 150 = .ok (.aload_n 0, 1) := by decide +kernel
theorem dL_areAlike_151 : decode cL_areAlike 151 = .ok (.iload 5, 2) := by decide +kernel
theorem dL_areAlike_153 : decode cL_areAlike 153 = .ok (.iload 6, 2) := by decide +kernel
theorem dL_areAlike_155 : decode cL_areAlike 155 = .ok (.invokevirtual 15, 3) := by decide +kernel
theorem dL_areAlike_158 : decode cL_areAlike 158 = .ok (.aload_n 1, 1) := by decide +kernel
theorem dL_areAlike_159 : decode cL_areAlike 159 = .ok (.iconst 5, 1) := by decide +kernel
theorem dL_areAlike_160 : decode cL_areAlike 160 = .ok (.iload 5, 2) := by decide +kernel
theorem dL_areAlike_162 : decode cL_areAlike 162 = .ok (.isub, 1) := by decide +kernel
theorem dL_areAlike_163 : decode cL_areAlike 163 = .ok (.iload 6, 2) := by decide +kernel
theorem dL_areAlike_165 : decode cL_areAlike 165 = .ok (.invokevirtual 15, 3) := by decide +kernel
theorem dL_areAlike_168 : decode cL_areAlike 168 = .ok (.if_icmp .ne 32, 3) := by decide +kernel
theorem dL_areAlike_171 : decode cL_areAlike 171 = .ok (.aload_n 0, 1) := by decide +kernel
theorem dL_areAlike_172 : decode cL_areAlike 172 = .ok (.iload 5, 2) := by decide +kernel
theorem dL_areAlike_174 : decode cL_areAlike 174 = .ok (.iload 6, 2) := by decide +kernel
theorem dL_areAlike_176 : decode cL_areAlike 176 = .ok (.iconst 3, 1) := by decide +kernel
theorem dL_areAlike_177 : decode cL_areAlike 177 = .ok (.irem, 1) := by decide +kernel
theorem dL_areAlike_178 : decode cL_areAlike 178 = .ok (.invokevirtual 82, 3) := by decide +kernel
theorem dL_areAlike_181 : decode cL_areAlike 181 = .ok (.aload_n 1, 1) := by decide +kernel
theorem dL_areAlike_182 : decode cL_areAlike 182 = .ok (.iconst 5, 1) := by decide +kernel
theorem dL_areAlike_183 : decode cL_areAlike 183 = .ok (.iload 5, 2) := by decide +kernel
theorem dL_areAlike_185 : decode cL_areAlike 185 = .ok (.isub, 1) := by decide +kernel
theorem dL_areAlike_186 : decode cL_areAlike 186 = .ok (.iload 6, 2) := by decide +kernel
theorem dL_areAlike_188 : decode cL_areAlike 188 = .ok (.iconst 3, 1) := by decide +kernel
theorem dL_areAlike_189 : decode cL_areAlike 189 = .ok (.irem, 1) := by decide +kernel
theorem dL_areAlike_190 : decode cL_areAlike 190 = .ok (.invokevirtual 82, 3) := by decide +kernel
theorem dL_areAlike_193 : decode cL_areAlike 193 = .ok (.if_icmp .ne 7, 3) := by decide +kernel
theorem dL_areAlike_196 : decode cL_areAlike 196 = .ok (.iconst 1, 1) := by decide +kernel
theorem dL_areAlike_197 : decode cL_areAlike 197 = .ok (.goto 4, 3) := by decide +kernel
theorem dL_areAlike_200 : decode cL_areAlike 200 = .ok (.iconst 0, 1) := by decide +kernel
theorem dL_areAlike_201 : decode cL_areAlike 201 = .ok (.istore_n 2, 1) := by decide +kernel
theorem dL_areAlike_202 : decode cL_areAlike 202 = .ok (.iinc 6 1, 3) := by decide +kernel
theorem dL_areAlike_205 : decode cL_areAlike 205 = .ok (.goto (-66), 3) := by decide +kernel
theorem dL_areAlike_208 : decode cL_areAlike 208 = .ok (.iinc 5 1, 3) := by decide +kernel
theorem dL_areAlike_211 : decode cL_areAlike 211 = .ok (.goto (-149), 3) := by decide +kernel
theorem dL_areAlike_214 : decode cL_areAlike 214 = .ok (.iload_n 2, 1) := by decide +kernel
theorem dL_areAlike_215 : decode cL_areAlike 215 = .ok (.ifCond .eq 68, 3) := by decide +kernel
theorem dL_areAlike_218 : decode cL_areAlike 218 = .ok (.iload_n 3, 1) := by decide +kernel
theorem dL_areAlike_219 : decode cL_areAlike 219 = .ok (.aload_n 0, 1) := by decide +kernel
theorem dL_areAlike_220 : decode cL_areAlike 220 = .ok (.bipush 14, 2) := by decide +kernel
theorem dL_areAlike_222 : decode cL_areAlike 222 = .ok (.invokevirtual 19, 3) := by decide +kernel
theorem dL_areAlike_225 : decode cL_areAlike 225 = .ok (.if_icmp .ne 58, 3) := by decide +kernel
theorem dL_areAlike_228 : decode cL_areAlike 228 = .ok (.iload 4, 2) := by decide +kernel
theorem dL_areAlike_230 : decode cL_areAlike 230 = .ok (.aload_n 0, 1) := by decide +kernel
theorem dL_areAlike_231 : decode cL_areAlike 231 = .ok (.bipush 15, 2) := by decide +kernel
theorem dL_areAlike_233 : decode cL_areAlike 233 = .ok (.invokevirtual 19, 3) := by decide +kernel
theorem dL_areAlike_236 : decode cL_areAlike 236 = .ok (.if_icmp .ne 47, 3) := by decide +kernel
theorem dL_areAlike_239 : decode cL_areAlike 239 = .ok (.aload_n 0, 1) := by decide +kernel
theorem dL_areAlike_240 : decode cL_areAlike 240 = .ok (.invokevirtual 85, 3) := by decide +kernel
theorem dL_areAlike_243 : decode cL_areAlike 243 = .ok (.bipush (-6), 2) := by decide +kernel
theorem dL_areAlike_245 : decode cL_areAlike 245 = .ok (.if_icmp .ne 15, 3) := by decide +kernel
theorem dL_areAlike_248 : decode cL_areAlike 248 = .ok (.aload_n 1, 1) := by decide +kernel
theorem dL_areAlike_249 : decode cL_areAlike 249 = .ok (.invokevirtual 85, 3) := by decide +kernel
theorem dL_areAlike_252 : decode cL_areAlike 252 = .ok (.bipush (-6), 2) := by decide +kernel
theorem dL_areAlike_254 : decode cL_areAlike 254 = .ok (.if_icmp .ne 29, 3) := by decide +kernel
theorem dL_areAlike_257 : decode cL_areAlike 257 = .ok (.goto 22, 3) := by decide +kernel
theorem dL_areAlike_260 : decode cL_areAlike 260 = .ok (.aload_n 0, 1) := by decide +kernel
theorem dL_areAlike_261 : decode cL_areAlike 261 = .ok (.aload_n 0, 1) := by decide +kernel
theorem dL_areAlike_262 : decode cL_areAlike 262 = .ok (.invokevirtual 85, 3) := by decide +kernel
theorem dL_areAlike_265 : decode cL_areAlike 265 = .ok (.invokestatic 88, 3) := by decide +kernel
theorem dL_areAlike_268 : decode cL_areAlike 268 = .ok (.aload_n 1, 1) := by decide +kernel
theorem dL_areAlike_269 : decode cL_areAlike 269 = .ok (.aload_n 1, 1) := by decide +kernel
theorem dL_areAlike_270 : decode cL_areAlike 270 = .ok (.invokevirtual 85, 3) := by decide +kernel
theorem dL_areAlike_273 : decode cL_areAlike 273 = .ok (.invokestatic 88, 3) := by decide +kernel
theorem dL_areAlike_276 : decode cL_areAlike 276 = .ok (.if_icmp .ne 7, 3) := by decide +kernel
theorem dL_areAlike_279 : decode cL_areAlike 279 = .ok (.iconst 1, 1) := by decide +kernel
theorem dL_areAlike_280 : decode cL_areAlike 280 = .ok (.goto 4, 3) := by decide +kernel
theorem dL_areAlike_283 : decode cL_areAlike 283 = .ok (.iconst 0, 1) := by decide +kernel
theorem dL_areAlike_284 : decode cL_areAlike 284 = .ok (.ireturn, 1) := by decide +kernel
theorem dL_law_0 : decode cL_law 0 = .ok (.new 10, 3) := by decide +kernel
theorem dL_law_3 : decode cL_law 3 = .ok (.dup, 1) := by decide +kernel
theorem dL_law_4 : decode cL_law 4 = .ok (.invokespecial 92, 3) := by decide +kernel
theorem dL_law_7 : decode cL_law 7 = .ok (.astore_n 1, 1) := by decide +kernel
theorem dL_law_8 : decode cL_law 8 = .ok (.new 10, 3) := by decide +kernel
theorem dL_law_11 : decode cL_law 11 = .ok (.dup, 1) := by decide +kernel
theorem dL_law_12 : decode cL_law 12 = .ok (.invokespecial 92, 3) := by decide +kernel
theorem dL_law_15 : decode cL_law 15 = .ok (.astore_n 2, 1) := by decide +kernel
theorem dL_law_16 : decode cL_law 16 = .ok (.iconst 1, 1) := by decide +kernel
theorem dL_law_17 : decode cL_law 17 = .ok (.istore_n 3, 1) := by decide +kernel
theorem dL_law_18 : decode cL_law 18 = .ok (.iconst 0, 1) := by decide +kernel
theorem dL_law_19 : decode cL_law 19 = .ok (.istore 4, 2) := by decide +kernel
theorem dL_law_21 : decode cL_law 21 = .ok (.iload 4, 2) := by decide +kernel
theorem dL_law_23 : decode cL_law 23 = .ok (.bipush 60, 2) := by decide +kernel
theorem dL_law_25 : decode cL_law 25 = .ok (.if_icmp .ge 50, 3) := by decide +kernel
theorem dL_law_28 : decode cL_law 28 = .ok (.iload_n 3, 1) := by decide +kernel
theorem dL_law_29 : decode cL_law 29 = .ok (.ifCond .eq 46, 3) := by decide +kernel
theorem dL_law_32 : decode cL_law 32 = .ok (.aload_n 1, 1) := by decide +kernel
theorem dL_law_33 : decode cL_law 33 = .ok (.aload_n 2, 1) := by decide +kernel
theorem dL_law_34 : decode cL_law 34 = .ok (.aload_n 0, 1) := by decide +kernel
theorem dL_law_35 : decode cL_law 35 = .ok (.iload 4, 2) := by decide +kernel
theorem dL_law_37 : decode cL_law 37 = .ok (.invokestatic 93, 3) := by decide +kernel
theorem dL_law_40 : decode cL_law 40 = .ok (.aload_n 0, 1) := by decide +kernel
theorem dL_law_41 : decode cL_law 41 = .ok (.iload 4, 2) := by decide +kernel
theorem dL_law_43 : decode cL_law 43 = .ok (.iconst 1, 1) := by decide +kernel
theorem dL_law_44 : decode cL_law 44 = .ok (.iadd, 1) := by decide +kernel
theorem dL_law_45 : decode cL_law 45 = .ok (.invokestatic 93, 3) := by decide +kernel
theorem dL_law_48 : decode cL_law 48 = .ok (.iconst 2, 1) := by decide +kernel
theorem dL_law_49 : decode cL_law 49 = .ok (.ishr, 1) := by decide +kernel
theorem dL_law_50 : decode cL_law 50 = .ok (.invokestatic 97, 3) := by decide +kernel
theorem dL_law_53 : decode cL_law 53 = .ok (.ifCond .eq 14, 3) := by decide +kernel
theorem dL_law_56 : decode cL_law 56 = .ok (.aload_n 1, 1) := by decide +kernel
theorem dL_law_57 : decode cL_law 57 = .ok (.invokestatic 101, 3) := by decide +kernel
theorem dL_law_60 : decode cL_law 60 = .ok (.ifCond .eq 7, 3) := by decide +kernel
theorem dL_law_63 : decode cL_law 63 = .ok (.iconst 1, 1) := by decide +kernel
theorem dL_law_64 : decode cL_law 64 = .ok (.goto 4, 3) := by decide +kernel
theorem dL_law_67 : decode cL_law 67 = .ok (.iconst 0, 1) := by decide +kernel
theorem dL_law_68 : decode cL_law 68 = .ok (.istore_n 3, 1) := by decide +kernel
theorem dL_law_69 : decode cL_law 69 = .ok (.iinc 4 1, 3) := by decide +kernel
theorem dL_law_72 : decode cL_law 72 = .ok (.goto (-51), 3) := by decide +kernel
theorem dL_law_75 : decode cL_law 75 = .ok (.iload_n 3, 1) := by decide +kernel
theorem dL_law_76 : decode cL_law 76 = .ok (.ifCond .eq 15, 3) := by decide +kernel
theorem dL_law_79 : decode cL_law 79 = .ok (.aload_n 1, 1) := by decide +kernel
theorem dL_law_80 : decode cL_law 80 = .ok (.aload_n 2, 1) := by decide +kernel
theorem dL_law_81 : decode cL_law 81 = .ok (.invokestatic 105, 3) := by decide +kernel
theorem dL_law_84 : decode cL_law 84 = .ok (.ifCond .eq 7, 3) := by decide +kernel
theorem dL_law_87 : decode cL_law 87 = .ok (.iconst 1, 1) := by decide +kernel
theorem dL_law_88 : decode cL_law 88 = .ok (.goto 4, 3) := by decide +kernel
theorem dL_law_91 : decode cL_law 91 = .ok (.iconst 0, 1) := by decide +kernel
theorem dL_law_92 : decode cL_law 92 = .ok (.ireturn, 1) := by decide +kernel
