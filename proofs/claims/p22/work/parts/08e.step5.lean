theorem dL_isStep_851 : decode cL_isStep 851 = .ok (.iconst 1, 1) := by decide +kernel
theorem dL_isStep_852 : decode cL_isStep 852 = .ok (.goto 4, 3) := by decide +kernel
theorem dL_isStep_855 : decode cL_isStep 855 = .ok (.iconst 0, 1) := by decide +kernel
theorem dL_isStep_856 : decode cL_isStep 856 = .ok (.istore 7, 2) := by decide +kernel
theorem dL_isStep_858 : decode cL_isStep 858 = .ok (.iinc 9 1, 3) := by decide +kernel
theorem dL_isStep_861 : decode cL_isStep 861 = .ok (.goto (-112), 3) := by decide +kernel
theorem dL_isStep_864 : decode cL_isStep 864 = .ok (.iload 7, 2) := by decide +kernel
theorem dL_isStep_866 : decode cL_isStep 866 = .ok (.ifCond .eq 21, 3) := by decide +kernel
theorem dL_isStep_869 : decode cL_isStep 869 = .ok (.aload_n 1, 1) := by decide +kernel
theorem dL_isStep_870 : decode cL_isStep 870 = .ok (.invokevirtual 47, 3) := by decide +kernel
theorem dL_isStep_873 : decode cL_isStep 873 = .ok (.aload_n 0, 1) := by decide +kernel
theorem dL_isStep_874 : decode cL_isStep 874 = .ok (.invokestatic 62, 3) := by decide +kernel
theorem dL_isStep_877 : decode cL_isStep 877 = .ok (.iload 8, 2) := by decide +kernel
theorem dL_isStep_879 : decode cL_isStep 879 = .ok (.isub, 1) := by decide +kernel
theorem dL_isStep_880 : decode cL_isStep 880 = .ok (.if_icmp .ne 7, 3) := by decide +kernel
theorem dL_isStep_883 : decode cL_isStep 883 = .ok (.iconst 1, 1) := by decide +kernel
theorem dL_isStep_884 : decode cL_isStep 884 = .ok (.goto 4, 3) := by decide +kernel
theorem dL_isStep_887 : decode cL_isStep 887 = .ok (.iconst 0, 1) := by decide +kernel
theorem dL_isStep_888 : decode cL_isStep 888 = .ok (.ireturn, 1) := by decide +kernel
