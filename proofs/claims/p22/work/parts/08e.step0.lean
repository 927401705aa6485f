theorem dL_isStep_0 : decode cL_isStep 0 = .ok (.iload_n 2, 1) := by decide +kernel
theorem dL_isStep_1 : decode cL_isStep 1 = .ok (.iconst 4, 1) := by decide +kernel
theorem dL_isStep_2 : decode cL_isStep 2 = .ok (.ishr, 1) := by decide +kernel
theorem dL_isStep_3 : decode cL_isStep 3 = .ok (.istore 4, 2) := by decide +kernel
theorem dL_isStep_5 : decode cL_isStep 5 = .ok (.iload 4, 2) := by decide +kernel
theorem dL_isStep_7 : decode cL_isStep 7 = .ok (.iload_n 3, 1) := by decide +kernel
theorem dL_isStep_8 : decode cL_isStep 8 = .ok (.iconst 3, 1) := by decide +kernel
theorem dL_isStep_9 : decode cL_isStep 9 = .ok (.invokestatic 23, 3) := by decide +kernel
theorem dL_isStep_12 : decode cL_isStep 12 = .ok (.ifCond .ne 8, 3) := by decide +kernel
theorem dL_isStep_15 : decode cL_isStep 15 = .ok (.bipush 6, 2) := by decide +kernel
theorem dL_isStep_17 : decode cL_isStep 17 = .ok (.goto 4, 3) := by decide +kernel
theorem dL_isStep_20 : decode cL_isStep 20 = .ok (.iconst 2, 1) := by decide +kernel
theorem dL_isStep_21 : decode cL_isStep 21 = .ok (.invokestatic 23, 3) := by decide +kernel
theorem dL_isStep_24 : decode cL_isStep 24 = .ok (.istore 5, 2) := by decide +kernel
theorem dL_isStep_26 : decode cL_isStep 26 = .ok (.iload_n 2, 1) := by decide +kernel
theorem dL_isStep_27 : decode cL_isStep 27 = .ok (.bipush 18, 2) := by decide +kernel
theorem dL_isStep_29 : decode cL_isStep 29 = .ok (.invokestatic 23, 3) := by decide +kernel
theorem dL_isStep_32 : decode cL_isStep 32 = .ok (.tableswitch 663 0 6 #[44, 177, 177, 177, 370, 485, 595], 44) := by decide +kernel
theorem dL_isStep_76 : decode cL_isStep 76 = .ok (.iload 4, 2) := by decide +kernel
theorem dL_isStep_78 : decode cL_isStep 78 = .ok (.iconst 3, 1) := by decide +kernel
theorem dL_isStep_79 : decode cL_isStep 79 = .ok (.invokestatic 23, 3) := by decide +kernel
theorem dL_isStep_82 : decode cL_isStep 82 = .ok (.istore 6, 2) := by decide +kernel
theorem dL_isStep_84 : decode cL_isStep 84 = .ok (.iload 6, 2) := by decide +kernel
theorem dL_isStep_86 : decode cL_isStep 86 = .ok (.ifCond .ne 31, 3) := by decide +kernel
theorem dL_isStep_89 : decode cL_isStep 89 = .ok (.iconst 1, 1) := by decide +kernel
theorem dL_isStep_90 : decode cL_isStep 90 = .ok (.iload_n 3, 1) := by decide +kernel
theorem dL_isStep_91 : decode cL_isStep 91 = .ok (.iload 4, 2) := by decide +kernel
theorem dL_isStep_93 : decode cL_isStep 93 = .ok (.iconst 3, 1) := by decide +kernel
theorem dL_isStep_94 : decode cL_isStep 94 = .ok (.ishr, 1) := by decide +kernel
theorem dL_isStep_95 : decode cL_isStep 95 = .ok (.iconst 2, 1) := by decide +kernel
theorem dL_isStep_96 : decode cL_isStep 96 = .ok (.invokestatic 23, 3) := by decide +kernel
theorem dL_isStep_99 : decode cL_isStep 99 = .ok (.ifCond .ne 9, 3) := by decide +kernel
theorem dL_isStep_102 : decode cL_isStep 102 = .ok (.sipush 200, 3) := by decide +kernel
theorem dL_isStep_105 : decode cL_isStep 105 = .ok (.goto 5, 3) := by decide +kernel
theorem dL_isStep_108 : decode cL_isStep 108 = .ok (.bipush 9, 2) := by decide +kernel
theorem dL_isStep_110 : decode cL_isStep 110 = .ok (.invokestatic 23, 3) := by decide +kernel
theorem dL_isStep_113 : decode cL_isStep 113 = .ok (.iadd, 1) := by decide +kernel
theorem dL_isStep_114 : decode cL_isStep 114 = .ok (.goto 42, 3) := by decide +kernel
theorem dL_isStep_117 : decode cL_isStep 117 = .ok (.iload 6, 2) := by decide +kernel
theorem dL_isStep_119 : decode cL_isStep 119 = .ok (.iconst 1, 1) := by decide +kernel
theorem dL_isStep_120 : decode cL_isStep 120 = .ok (.if_icmp .ne 12, 3) := by decide +kernel
theorem dL_isStep_123 : decode cL_isStep 123 = .ok (.iload_n 3, 1) := by decide +kernel
theorem dL_isStep_124 : decode cL_isStep 124 = .ok (.bipush 51, 2) := by decide +kernel
theorem dL_isStep_126 : decode cL_isStep 126 = .ok (.invokestatic 23, 3) := by decide +kernel
theorem dL_isStep_129 : decode cL_isStep 129 = .ok (.goto 27, 3) := by decide +kernel
theorem dL_isStep_132 : decode cL_isStep 132 = .ok (.iconst 1, 1) := by decide +kernel
theorem dL_isStep_133 : decode cL_isStep 133 = .ok (.iload_n 3, 1) := by decide +kernel
theorem dL_isStep_134 : decode cL_isStep 134 = .ok (.iload 4, 2) := by decide +kernel
theorem dL_isStep_136 : decode cL_isStep 136 = .ok (.iconst 3, 1) := by decide +kernel
theorem dL_isStep_137 : decode cL_isStep 137 = .ok (.ishr, 1) := by decide +kernel
theorem dL_isStep_138 : decode cL_isStep 138 = .ok (.iconst 2, 1) := by decide +kernel
theorem dL_isStep_139 : decode cL_isStep 139 = .ok (.invokestatic 23, 3) := by decide +kernel
theorem dL_isStep_142 : decode cL_isStep 142 = .ok (.ifCond .ne 9, 3) := by decide +kernel
theorem dL_isStep_145 : decode cL_isStep 145 = .ok (.sipush 500, 3) := by decide +kernel
theorem dL_isStep_148 : decode cL_isStep 148 = .ok (.goto 4, 3) := by decide +kernel
theorem dL_isStep_151 : decode cL_isStep 151 = .ok (.iconst 4, 1) := by decide +kernel
theorem dL_isStep_152 : decode cL_isStep 152 = .ok (.invokestatic 23, 3) := by decide +kernel
theorem dL_isStep_155 : decode cL_isStep 155 = .ok (.iadd, 1) := by decide +kernel
theorem dL_isStep_156 : decode cL_isStep 156 = .ok (.istore 7, 2) := by decide +kernel
theorem dL_isStep_158 : decode cL_isStep 158 = .ok (.aload_n 0, 1) := by decide +kernel
theorem dL_isStep_159 : decode cL_isStep 159 = .ok (.iload 6, 2) := by decide +kernel
theorem dL_isStep_161 : decode cL_isStep 161 = .ok (.invokevirtual 19, 3) := by decide +kernel
theorem dL_isStep_164 : decode cL_isStep 164 = .ok (.istore 8, 2) := by decide +kernel
theorem dL_isStep_166 : decode cL_isStep 166 = .ok (.aload_n 0, 1) := by decide +kernel
theorem dL_isStep_167 : decode cL_isStep 167 = .ok (.iload 6, 2) := by decide +kernel
theorem dL_isStep_169 : decode cL_isStep 169 = .ok (.iload 7, 2) := by decide +kernel
