set_option maxRecDepth 20000 in
theorem ggX4_init_X4_lays : GoodIn wsX4_init wsX4_lays := goodIn_r _ [15, 5, 16, 17, 18, 19, 20, 21, 22, 23, 24, 25] (by decide +kernel) (by decide +kernel)
set_option maxRecDepth 20000 in
theorem gX4_init_X4_lays : GoodIn wsX4_init (wsV RX4 28 RX4 yX4_lays wsX4_lays) := goodIn_app (goodIn_of _ (by decide +kernel)) ggX4_init_X4_lays
theorem dX4_init_0 : decode cX4_init 0 = .ok (.aload_n 0, 1) := by decide +kernel
theorem dX4_init_1 : decode cX4_init 1 = .ok (.invokespecial 1, 3) := by decide +kernel
theorem dX4_init_4 : decode cX4_init 4 = .ok (.aload_n 0, 1) := by decide +kernel
theorem dX4_init_5 : decode cX4_init 5 = .ok (.bipush 86, 2) := by decide +kernel
theorem dX4_init_7 : decode cX4_init 7 = .ok (.newarray .int, 2) := by decide +kernel
theorem dX4_init_9 : decode cX4_init 9 = .ok (.putfield 7, 3) := by decide +kernel
theorem dX4_init_12 : decode cX4_init 12 = .ok (.aload_n 0, 1) := by decide +kernel
theorem dX4_init_13 : decode cX4_init 13 = .ok (.bipush 86, 2) := by decide +kernel
theorem dX4_init_15 : decode cX4_init 15 = .ok (.newarray .int, 2) := by decide +kernel
theorem dX4_init_17 : decode cX4_init 17 = .ok (.putfield 13, 3) := by decide +kernel
theorem dX4_init_20 : decode cX4_init 20 = .ok (.aload_n 0, 1) := by decide +kernel
theorem dX4_init_21 : decode cX4_init 21 = .ok (.sipush 516, 3) := by decide +kernel
theorem dX4_init_24 : decode cX4_init 24 = .ok (.newarray .int, 2) := by decide +kernel
theorem dX4_init_26 : decode cX4_init 26 = .ok (.putfield 16, 3) := by decide +kernel
theorem dX4_init_29 : decode cX4_init 29 = .ok (.aload_n 0, 1) := by decide +kernel
theorem dX4_init_30 : decode cX4_init 30 = .ok (.sipush 172, 3) := by decide +kernel
theorem dX4_init_33 : decode cX4_init 33 = .ok (.newarray .int, 2) := by decide +kernel
theorem dX4_init_35 : decode cX4_init 35 = .ok (.putfield 19, 3) := by decide +kernel
theorem dX4_init_38 : decode cX4_init 38 = .ok (.aload_n 0, 1) := by decide +kernel
theorem dX4_init_39 : decode cX4_init 39 = .ok (.iconst 2, 1) := by decide +kernel
theorem dX4_init_40 : decode cX4_init 40 = .ok (.newarray .int, 2) := by decide +kernel
theorem dX4_init_42 : decode cX4_init 42 = .ok (.putfield 22, 3) := by decide +kernel
theorem dX4_init_45 : decode cX4_init 45 = .ok (.aload_n 0, 1) := by decide +kernel
theorem dX4_init_46 : decode cX4_init 46 = .ok (.bipush 60, 2) := by decide +kernel
theorem dX4_init_48 : decode cX4_init 48 = .ok (.newarray .int, 2) := by decide +kernel
theorem dX4_init_50 : decode cX4_init 50 = .ok (.putfield 25, 3) := by decide +kernel
theorem dX4_init_53 : decode cX4_init 53 = .ok (.aload_n 0, 1) := by decide +kernel
theorem dX4_init_54 : decode cX4_init 54 = .ok (.getfield 7, 3) := by decide +kernel
theorem dX4_init_57 : decode cX4_init 57 = .ok (.iconst 0, 1) := by decide +kernel
theorem dX4_init_58 : decode cX4_init 58 = .ok (.bipush 30, 2) := by decide +kernel
theorem dX4_init_60 : decode cX4_init 60 = .ok (.iastore, 1) := by decide +kernel
theorem dX4_init_61 : decode cX4_init 61 = .ok (.aload_n 0, 1) := by decide +kernel
theorem dX4_init_62 : decode cX4_init 62 = .ok (.getfield 7, 3) := by decide +kernel
theorem dX4_init_65 : decode cX4_init 65 = .ok (.iconst 1, 1) := by decide +kernel
theorem dX4_init_66 : decode cX4_init 66 = .ok (.iconst 3, 1) := by decide +kernel
theorem dX4_init_67 : decode cX4_init 67 = .ok (.iastore, 1) := by decide +kernel
theorem dX4_init_68 : decode cX4_init 68 = .ok (.aload_n 0, 1) := by decide +kernel
theorem dX4_init_69 : decode cX4_init 69 = .ok (.getfield 7, 3) := by decide +kernel
theorem dX4_init_72 : decode cX4_init 72 = .ok (.iconst 2, 1) := by decide +kernel
theorem dX4_init_73 : decode cX4_init 73 = .ok (.bipush 20, 2) := by decide +kernel
theorem dX4_init_75 : decode cX4_init 75 = .ok (.iastore, 1) := by decide +kernel
theorem dX4_init_76 : decode cX4_init 76 = .ok (.iconst 0, 1) := by decide +kernel
theorem dX4_init_77 : decode cX4_init 77 = .ok (.istore_n 1, 1) := by decide +kernel
theorem dX4_init_78 : decode cX4_init 78 = .ok (.iload_n 1, 1) := by decide +kernel
theorem dX4_init_79 : decode cX4_init 79 = .ok (.bipush 6, 2) := by decide +kernel
theorem dX4_init_81 : decode cX4_init 81 = .ok (.if_icmp .ge 26, 3) := by decide +kernel
theorem dX4_init_84 : decode cX4_init 84 = .ok (.aload_n 0, 1) := by decide +kernel
theorem dX4_init_85 : decode cX4_init 85 = .ok (.iload_n 1, 1) := by decide +kernel
theorem dX4_init_86 : decode cX4_init 86 = .ok (.iconst 1, 1) := by decide +kernel
theorem dX4_init_87 : decode cX4_init 87 = .ok (.bipush (-6), 2) := by decide +kernel
theorem dX4_init_89 : decode cX4_init 89 = .ok (.invokevirtual 28, 3) := by decide +kernel
theorem dX4_init_92 : decode cX4_init 92 = .ok (.aload_n 0, 1) := by decide +kernel
theorem dX4_init_93 : decode cX4_init 93 = .ok (.iload_n 1, 1) := by decide +kernel
theorem dX4_init_94 : decode cX4_init 94 = .ok (.bipush 11, 2) := by decide +kernel
theorem dX4_init_96 : decode cX4_init 96 = .ok (.bipush (-6), 2) := by decide +kernel
theorem dX4_init_98 : decode cX4_init 98 = .ok (.invokevirtual 28, 3) := by decide +kernel
theorem dX4_init_101 : decode cX4_init 101 = .ok (.iinc 1 1, 3) := by decide +kernel
theorem dX4_init_104 : decode cX4_init 104 = .ok (.goto (-26), 3) := by decide +kernel
theorem dX4_init_107 : decode cX4_init 107 = .ok (.return_, 1) := by decide +kernel
theorem dX4_in_0 : decode cX4_in 0 = .ok (.lload_n 0, 1) := by decide +kernel
theorem dX4_in_1 : decode cX4_in 1 = .ok (.lload_n 2, 1) := by decide +kernel
theorem dX4_in_2 : decode cX4_in 2 = .ok (.lcmp, 1) := by decide +kernel
theorem dX4_in_3 : decode cX4_in 3 = .ok (.ifCond .lt 14, 3) := by decide +kernel
theorem dX4_in_6 : decode cX4_in 6 = .ok (.lload_n 0, 1) := by decide +kernel
theorem dX4_in_7 : decode cX4_in 7 = .ok (.lload 4, 2) := by decide +kernel
theorem dX4_in_9 : decode cX4_in 9 = .ok (.lcmp, 1) := by decide +kernel
theorem dX4_in_10 : decode cX4_in 10 = .ok (.ifCond .gt 7, 3) := by decide +kernel
theorem dX4_in_13 : decode cX4_in 13 = .ok (.iconst 1, 1) := by decide +kernel
theorem dX4_in_14 : decode cX4_in 14 = .ok (.goto 4, 3) := by decide +kernel
theorem dX4_in_17 : decode cX4_in 17 = .ok (.iconst 0, 1) := by decide +kernel
theorem dX4_in_18 : decode cX4_in 18 = .ok (.ireturn, 1) := by decide +kernel
theorem dX4_changes_0 : decode cX4_changes 0 = .ok (.aload_n 0, 1) := by decide +kernel
theorem dX4_changes_1 : decode cX4_changes 1 = .ok (.getfield 32, 3) := by decide +kernel
theorem dX4_changes_4 : decode cX4_changes 4 = .ok (.bipush 6, 2) := by decide +kernel
theorem dX4_changes_6 : decode cX4_changes 6 = .ok (.if_icmp .ne 43, 3) := by decide +kernel
theorem dX4_changes_9 : decode cX4_changes 9 = .ok (.iconst 0, 1) := by decide +kernel
theorem dX4_changes_10 : decode cX4_changes 10 = .ok (.istore_n 1, 1) := by decide +kernel
theorem dX4_changes_11 : decode cX4_changes 11 = .ok (.iload_n 1, 1) := by decide +kernel
theorem dX4_changes_12 : decode cX4_changes 12 = .ok (.sipush 430, 3) := by decide +kernel
theorem dX4_changes_15 : decode cX4_changes 15 = .ok (.if_icmp .ge 24, 3) := by decide +kernel
theorem dX4_changes_18 : decode cX4_changes 18 = .ok (.aload_n 0, 1) := by decide +kernel
theorem dX4_changes_19 : decode cX4_changes 19 = .ok (.getfield 16, 3) := by decide +kernel
theorem dX4_changes_22 : decode cX4_changes 22 = .ok (.iload_n 1, 1) := by decide +kernel
theorem dX4_changes_23 : decode cX4_changes 23 = .ok (.aload_n 0, 1) := by decide +kernel
theorem dX4_changes_24 : decode cX4_changes 24 = .ok (.getfield 16, 3) := by decide +kernel
theorem dX4_changes_27 : decode cX4_changes 27 = .ok (.iload_n 1, 1) := by decide +kernel
theorem dX4_changes_28 : decode cX4_changes 28 = .ok (.bipush 86, 2) := by decide +kernel
theorem dX4_changes_30 : decode cX4_changes 30 = .ok (.iadd, 1) := by decide +kernel
theorem dX4_changes_31 : decode cX4_changes 31 = .ok (.iaload, 1) := by decide +kernel
theorem dX4_changes_32 : decode cX4_changes 32 = .ok (.iastore, 1) := by decide +kernel
theorem dX4_changes_33 : decode cX4_changes 33 = .ok (.iinc 1 1, 3) := by decide +kernel
theorem dX4_changes_36 : decode cX4_changes 36 = .ok (.goto (-25), 3) := by decide +kernel
theorem dX4_changes_39 : decode cX4_changes 39 = .ok (.aload_n 0, 1) := by decide +kernel
theorem dX4_changes_40 : decode cX4_changes 40 = .ok (.dup, 1) := by decide +kernel
theorem dX4_changes_41 : decode cX4_changes 41 = .ok (.getfield 32, 3) := by decide +kernel
theorem dX4_changes_44 : decode cX4_changes 44 = .ok (.iconst 1, 1) := by decide +kernel
theorem dX4_changes_45 : decode cX4_changes 45 = .ok (.isub, 1) := by decide +kernel
theorem dX4_changes_46 : decode cX4_changes 46 = .ok (.putfield 32, 3) := by decide +kernel
theorem dX4_changes_49 : decode cX4_changes 49 = .ok (.iconst 0, 1) := by decide +kernel
theorem dX4_changes_50 : decode cX4_changes 50 = .ok (.istore_n 1, 1) := by decide +kernel
theorem dX4_changes_51 : decode cX4_changes 51 = .ok (.iload_n 1, 1) := by decide +kernel
theorem dX4_changes_52 : decode cX4_changes 52 = .ok (.bipush 86, 2) := by decide +kernel
theorem dX4_changes_54 : decode cX4_changes 54 = .ok (.if_icmp .ge 29, 3) := by decide +kernel
theorem dX4_changes_57 : decode cX4_changes 57 = .ok (.aload_n 0, 1) := by decide +kernel
theorem dX4_changes_58 : decode cX4_changes 58 = .ok (.getfield 16, 3) := by decide +kernel
theorem dX4_changes_61 : decode cX4_changes 61 = .ok (.bipush 86, 2) := by decide +kernel
theorem dX4_changes_63 : decode cX4_changes 63 = .ok (.aload_n 0, 1) := by decide +kernel
theorem dX4_changes_64 : decode cX4_changes 64 = .ok (.getfield 32, 3) := by decide +kernel
theorem dX4_changes_67 : decode cX4_changes 67 = .ok (.imul, 1) := by decide +kernel
theorem dX4_changes_68 : decode cX4_changes 68 = .ok (.iload_n 1, 1) := by decide +kernel
theorem dX4_changes_69 : decode cX4_changes 69 = .ok (.iadd, 1) := by decide +kernel
theorem dX4_changes_70 : decode cX4_changes 70 = .ok (.aload_n 0, 1) := by decide +kernel
theorem dX4_changes_71 : decode cX4_changes 71 = .ok (.getfield 7, 3) := by decide +kernel
theorem dX4_changes_74 : decode cX4_changes 74 = .ok (.iload_n 1, 1) := by decide +kernel
theorem dX4_changes_75 : decode cX4_changes 75 = .ok (.iaload, 1) := by decide +kernel
theorem dX4_changes_76 : decode cX4_changes 76 = .ok (.iastore, 1) := by decide +kernel
theorem dX4_changes_77 : decode cX4_changes 77 = .ok (.iinc 1 1, 3) := by decide +kernel
theorem dX4_changes_80 : decode cX4_changes 80 = .ok (.goto (-29), 3) := by decide +kernel
theorem dX4_changes_83 : decode cX4_changes 83 = .ok (.aload_n 0, 1) := by decide +kernel
theorem dX4_changes_84 : decode cX4_changes 84 = .ok (.dup, 1) := by decide +kernel
theorem dX4_changes_85 : decode cX4_changes 85 = .ok (.getfield 32, 3) := by decide +kernel
theorem dX4_changes_88 : decode cX4_changes 88 = .ok (.iconst 1, 1) := by decide +kernel
theorem dX4_changes_89 : decode cX4_changes 89 = .ok (.iadd, 1) := by decide +kernel
theorem dX4_changes_90 : decode cX4_changes 90 = .ok (.putfield 32, 3) := by decide +kernel
theorem dX4_changes_93 : decode cX4_changes 93 = .ok (.return_, 1) := by decide +kernel
theorem dX4_keeps_0 : decode cX4_keeps 0 = .ok (.iconst 0, 1) := by decide +kernel
theorem dX4_keeps_1 : decode cX4_keeps 1 = .ok (.istore_n 1, 1) := by decide +kernel
theorem dX4_keeps_2 : decode cX4_keeps 2 = .ok (.iload_n 1, 1) := by decide +kernel
theorem dX4_keeps_3 : decode cX4_keeps 3 = .ok (.bipush 86, 2) := by decide +kernel
theorem dX4_keeps_5 : decode cX4_keeps 5 = .ok (.if_icmp .ge 21, 3) := by decide +kernel
theorem dX4_keeps_8 : decode cX4_keeps 8 = .ok (.aload_n 0, 1) := by decide +kernel
theorem dX4_keeps_9 : decode cX4_keeps 9 = .ok (.getfield 13, 3) := by decide +kernel
theorem dX4_keeps_12 : decode cX4_keeps 12 = .ok (.iload_n 1, 1) := by decide +kernel
theorem dX4_keeps_13 : decode cX4_keeps 13 = .ok (.aload_n 0, 1) := by decide +kernel
theorem dX4_keeps_14 : decode cX4_keeps 14 = .ok (.getfield 7, 3) := by decide +kernel
theorem dX4_keeps_17 : decode cX4_keeps 17 = .ok (.iload_n 1, 1) := by decide +kernel
theorem dX4_keeps_18 : decode cX4_keeps 18 = .ok (.iaload, 1) := by decide +kernel
theorem dX4_keeps_19 : decode cX4_keeps 19 = .ok (.iastore, 1) := by decide +kernel
theorem dX4_keeps_20 : decode cX4_keeps 20 = .ok (.iinc 1 1, 3) := by decide +kernel
theorem dX4_keeps_23 : decode cX4_keeps 23 = .ok (.goto (-21), 3) := by decide +kernel
theorem dX4_keeps_26 : decode cX4_keeps 26 = .ok (.return_, 1) := by decide +kernel
theorem dX4_comesBack_0 : decode cX4_comesBack 0 = .ok (.iconst 0, 1) := by decide +kernel
theorem dX4_comesBack_1 : decode cX4_comesBack 1 = .ok (.istore_n 1, 1) := by decide +kernel
theorem dX4_comesBack_2 : decode cX4_comesBack 2 = .ok (.iload_n 1, 1) := by decide +kernel
theorem dX4_comesBack_3 : decode cX4_comesBack 3 = .ok (.bipush 86, 2) := by decide +kernel
theorem dX4_comesBack_5 : decode cX4_comesBack 5 = .ok (.if_icmp .ge 21, 3) := by decide +kernel
theorem dX4_comesBack_8 : decode cX4_comesBack 8 = .ok (.aload_n 0, 1) := by decide +kernel
theorem dX4_comesBack_9 : decode cX4_comesBack 9 = .ok (.getfield 7, 3) := by decide +kernel
theorem dX4_comesBack_12 : decode cX4_comesBack 12 = .ok (.iload_n 1, 1) := by decide +kernel
theorem dX4_comesBack_13 : decode cX4_comesBack 13 = .ok (.aload_n 0, 1) := by decide +kernel
theorem dX4_comesBack_14 : decode cX4_comesBack 14 = .ok (.getfield 13, 3) := by decide +kernel
theorem dX4_comesBack_17 : decode cX4_comesBack 17 = .ok (.iload_n 1, 1) := by decide +kernel
theorem dX4_comesBack_18 : decode cX4_comesBack 18 = .ok (.iaload, 1) := by decide +kernel
theorem dX4_comesBack_19 : decode cX4_comesBack 19 = .ok (.iastore, 1) := by decide +kernel
theorem dX4_comesBack_20 : decode cX4_comesBack 20 = .ok (.iinc 1 1, 3) := by decide +kernel
theorem dX4_comesBack_23 : decode cX4_comesBack 23 = .ok (.goto (-21), 3) := by decide +kernel
theorem dX4_comesBack_26 : decode cX4_comesBack 26 = .ok (.return_, 1) := by decide +kernel
set_option maxRecDepth 20000 in
theorem ggX4_isGate_X4_in : GoodIn wsX4_isGate wsX4_in := goodIn_r _ [5] (by decide +kernel) (by decide +kernel)
set_option maxRecDepth 20000 in
theorem gX4_isGate_X4_in : GoodIn wsX4_isGate (va_wsS RX4 38 yX4_in wsX4_in) := goodIn_app (goodIn_of _ (by decide +kernel)) ggX4_isGate_X4_in
theorem dX4_isGate_0 : decode cX4_isGate 0 = .ok (.iload_n 0, 1) := by decide +kernel
theorem dX4_isGate_1 : decode cX4_isGate 1 = .ok (.i2l, 1) := by decide +kernel
theorem dX4_isGate_2 : decode cX4_isGate 2 = .ok (.lconst 0, 1) := by decide +kernel
theorem dX4_isGate_3 : decode cX4_isGate 3 = .ok (.ldc2_w 36, 3) := by decide +kernel
theorem dX4_isGate_6 : decode cX4_isGate 6 = .ok (.invokestatic 38, 3) := by decide +kernel
theorem dX4_isGate_9 : decode cX4_isGate 9 = .ok (.ireturn, 1) := by decide +kernel
theorem dX4_get_0 : decode cX4_get 0 = .ok (.aload_n 0, 1) := by decide +kernel
theorem dX4_get_1 : decode cX4_get 1 = .ok (.getfield 7, 3) := by decide +kernel
theorem dX4_get_4 : decode cX4_get 4 = .ok (.bipush 8, 2) := by decide +kernel
theorem dX4_get_6 : decode cX4_get 6 = .ok (.bipush 13, 2) := by decide +kernel
theorem dX4_get_8 : decode cX4_get 8 = .ok (.iload_n 1, 1) := by decide +kernel
theorem dX4_get_9 : decode cX4_get 9 = .ok (.imul, 1) := by decide +kernel
theorem dX4_get_10 : decode cX4_get 10 = .ok (.iadd, 1) := by decide +kernel
theorem dX4_get_11 : decode cX4_get 11 = .ok (.iload_n 2, 1) := by decide +kernel
theorem dX4_get_12 : decode cX4_get 12 = .ok (.iadd, 1) := by decide +kernel
theorem dX4_get_13 : decode cX4_get 13 = .ok (.iaload, 1) := by decide +kernel
theorem dX4_get_14 : decode cX4_get 14 = .ok (.ireturn, 1) := by decide +kernel
theorem dX4_lays_0 : decode cX4_lays 0 = .ok (.aload_n 0, 1) := by decide +kernel
theorem dX4_lays_1 : decode cX4_lays 1 = .ok (.getfield 7, 3) := by decide +kernel
theorem dX4_lays_4 : decode cX4_lays 4 = .ok (.bipush 8, 2) := by decide +kernel
theorem dX4_lays_6 : decode cX4_lays 6 = .ok (.bipush 13, 2) := by decide +kernel
theorem dX4_lays_8 : decode cX4_lays 8 = .ok (.iload_n 1, 1) := by decide +kernel
theorem dX4_lays_9 : decode cX4_lays 9 = .ok (.imul, 1) := by decide +kernel
theorem dX4_lays_10 : decode cX4_lays 10 = .ok (.iadd, 1) := by decide +kernel
theorem dX4_lays_11 : decode cX4_lays 11 = .ok (.iload_n 2, 1) := by decide +kernel
theorem dX4_lays_12 : decode cX4_lays 12 = .ok (.iadd, 1) := by decide +kernel
theorem dX4_lays_13 : decode cX4_lays 13 = .ok (.iload_n 3, 1) := by decide +kernel
theorem dX4_lays_14 : decode cX4_lays 14 = .ok (.iastore, 1) := by decide +kernel
theorem dX4_lays_15 : decode cX4_lays 15 = .ok (.return_, 1) := by decide +kernel
theorem dX4_more_0 : decode cX4_more 0 = .ok (.aload_n 0, 1) := by decide +kernel
theorem dX4_more_1 : decode cX4_more 1 = .ok (.getfield 7, 3) := by decide +kernel
theorem dX4_more_4 : decode cX4_more 4 = .ok (.bipush 8, 2) := by decide +kernel
theorem dX4_more_6 : decode cX4_more 6 = .ok (.bipush 13, 2) := by decide +kernel
theorem dX4_more_8 : decode cX4_more 8 = .ok (.iload_n 1, 1) := by decide +kernel
theorem dX4_more_9 : decode cX4_more 9 = .ok (.imul, 1) := by decide +kernel
theorem dX4_more_10 : decode cX4_more 10 = .ok (.iadd, 1) := by decide +kernel
theorem dX4_more_11 : decode cX4_more 11 = .ok (.iload_n 2, 1) := by decide +kernel
theorem dX4_more_12 : decode cX4_more 12 = .ok (.iadd, 1) := by decide +kernel
theorem dX4_more_13 : decode cX4_more 13 = .ok (.dup2, 1) := by decide +kernel
theorem dX4_more_14 : decode cX4_more 14 = .ok (.iaload, 1) := by decide +kernel
theorem dX4_more_15 : decode cX4_more 15 = .ok (.iload_n 3, 1) := by decide +kernel
theorem dX4_more_16 : decode cX4_more 16 = .ok (.iadd, 1) := by decide +kernel
theorem dX4_more_17 : decode cX4_more 17 = .ok (.iastore, 1) := by decide +kernel
theorem dX4_more_18 : decode cX4_more 18 = .ok (.return_, 1) := by decide +kernel
set_option maxRecDepth 20000 in
theorem ggX4_isUnderWay_X4_get : GoodIn wsX4_isUnderWay wsX4_get := goodIn_r _ [5, 6, 7, 8, 9, 10, 11, 12, 13, 14, 15, 16] (by decide +kernel) (by decide +kernel)
set_option maxRecDepth 20000 in
theorem gX4_isUnderWay_X4_get : GoodIn wsX4_isUnderWay (wsV RX4 42 RX4 yX4_get wsX4_get) := goodIn_app (goodIn_of _ (by decide +kernel)) ggX4_isUnderWay_X4_get
theorem dX4_isUnderWay_0 : decode cX4_isUnderWay 0 = .ok (.aload_n 0, 1) := by decide +kernel
theorem dX4_isUnderWay_1 : decode cX4_isUnderWay 1 = .ok (.iload_n 1, 1) := by decide +kernel
theorem dX4_isUnderWay_2 : decode cX4_isUnderWay 2 = .ok (.iconst 1, 1) := by decide +kernel
theorem dX4_isUnderWay_3 : decode cX4_isUnderWay 3 = .ok (.invokevirtual 42, 3) := by decide +kernel
theorem dX4_isUnderWay_6 : decode cX4_isUnderWay 6 = .ok (.bipush (-6), 2) := by decide +kernel
theorem dX4_isUnderWay_8 : decode cX4_isUnderWay 8 = .ok (.if_icmp .eq 7, 3) := by decide +kernel
theorem dX4_isUnderWay_11 : decode cX4_isUnderWay 11 = .ok (.iconst 1, 1) := by decide +kernel
theorem dX4_isUnderWay_12 : decode cX4_isUnderWay 12 = .ok (.goto 4, 3) := by decide +kernel
theorem dX4_isUnderWay_15 : decode cX4_isUnderWay 15 = .ok (.iconst 0, 1) := by decide +kernel
theorem dX4_isUnderWay_16 : decode cX4_isUnderWay 16 = .ok (.ireturn, 1) := by decide +kernel
set_option maxRecDepth 20000 in
theorem ggX4_isBlocked_X4_isUnderWay : GoodIn wsX4_isBlocked wsX4_isUnderWay := goodIn_r _ [6, 7, 8, 9, 5, 10, 1, 11, 12, 13, 14, 15, 16, 17, 18, 19, 20] (by decide +kernel) (by decide +kernel)
set_option maxRecDepth 20000 in
theorem gX4_isBlocked_X4_isUnderWay : GoodIn wsX4_isBlocked (wsV RX4 46 RX4 yX4_isUnderWay wsX4_isUnderWay) := goodIn_app (goodIn_of _ (by decide +kernel)) ggX4_isBlocked_X4_isUnderWay
set_option maxRecDepth 20000 in
theorem ggX4_isBlocked_X4_get : GoodIn wsX4_isBlocked wsX4_get := goodIn_r _ [10, 1, 11, 12, 13, 14, 15, 16, 17, 18, 19, 20] (by decide +kernel) (by decide +kernel)
set_option maxRecDepth 20000 in
theorem gX4_isBlocked_X4_get : GoodIn wsX4_isBlocked (wsV RX4 42 RX4 yX4_get wsX4_get) := goodIn_app (goodIn_of _ (by decide +kernel)) ggX4_isBlocked_X4_get
theorem dX4_isBlocked_0 : decode cX4_isBlocked 0 = .ok (.aload_n 0, 1) := by decide +kernel
theorem dX4_isBlocked_1 : decode cX4_isBlocked 1 = .ok (.iload_n 1, 1) := by decide +kernel
theorem dX4_isBlocked_2 : decode cX4_isBlocked 2 = .ok (.invokevirtual 46, 3) := by decide +kernel
theorem dX4_isBlocked_5 : decode cX4_isBlocked 5 = .ok (.ifCond .eq 29, 3) := by decide +kernel
theorem dX4_isBlocked_8 : decode cX4_isBlocked 8 = .ok (.aload_n 0, 1) := by decide +kernel
theorem dX4_isBlocked_9 : decode cX4_isBlocked 9 = .ok (.getfield 7, 3) := by decide +kernel
theorem dX4_isBlocked_12 : decode cX4_isBlocked 12 = .ok (.iconst 3, 1) := by decide +kernel
theorem dX4_isBlocked_13 : decode cX4_isBlocked 13 = .ok (.iaload, 1) := by decide +kernel
theorem dX4_isBlocked_14 : decode cX4_isBlocked 14 = .ok (.aload_n 0, 1) := by decide +kernel
theorem dX4_isBlocked_15 : decode cX4_isBlocked 15 = .ok (.iload_n 1, 1) := by decide +kernel
theorem dX4_isBlocked_16 : decode cX4_isBlocked 16 = .ok (.iconst 1, 1) := by decide +kernel
theorem dX4_isBlocked_17 : decode cX4_isBlocked 17 = .ok (.invokevirtual 42, 3) := by decide +kernel
theorem dX4_isBlocked_20 : decode cX4_isBlocked 20 = .ok (.isub, 1) := by decide +kernel
theorem dX4_isBlocked_21 : decode cX4_isBlocked 21 = .ok (.aload_n 0, 1) := by decide +kernel
theorem dX4_isBlocked_22 : decode cX4_isBlocked 22 = .ok (.getfield 7, 3) := by decide +kernel
theorem dX4_isBlocked_25 : decode cX4_isBlocked 25 = .ok (.iconst 0, 1) := by decide +kernel
theorem dX4_isBlocked_26 : decode cX4_isBlocked 26 = .ok (.iaload, 1) := by decide +kernel
theorem dX4_isBlocked_27 : decode cX4_isBlocked 27 = .ok (.if_icmp .lt 7, 3) := by decide +kernel
theorem dX4_isBlocked_30 : decode cX4_isBlocked 30 = .ok (.iconst 1, 1) := by decide +kernel
theorem dX4_isBlocked_31 : decode cX4_isBlocked 31 = .ok (.goto 4, 3) := by decide +kernel
theorem dX4_isBlocked_34 : decode cX4_isBlocked 34 = .ok (.iconst 0, 1) := by decide +kernel
theorem dX4_isBlocked_35 : decode cX4_isBlocked 35 = .ok (.ireturn, 1) := by decide +kernel
theorem dX4_lookBehind_0 : decode cX4_lookBehind 0 = .ok (.iload_n 0, 1) := by decide +kernel
theorem dX4_lookBehind_1 : decode cX4_lookBehind 1 = .ok (.iload_n 1, 1) := by decide +kernel
theorem dX4_lookBehind_2 : decode cX4_lookBehind 2 = .ok (.iadd, 1) := by decide +kernel
theorem dX4_lookBehind_3 : decode cX4_lookBehind 3 = .ok (.iconst 2, 1) := by decide +kernel
theorem dX4_lookBehind_4 : decode cX4_lookBehind 4 = .ok (.irem, 1) := by decide +kernel
theorem dX4_lookBehind_5 : decode cX4_lookBehind 5 = .ok (.ifCond .ne 7, 3) := by decide +kernel
theorem dX4_lookBehind_8 : decode cX4_lookBehind 8 = .ok (.iconst 1, 1) := by decide +kernel
theorem dX4_lookBehind_9 : decode cX4_lookBehind 9 = .ok (.goto 4, 3) := by decide +kernel
theorem dX4_lookBehind_12 : decode cX4_lookBehind 12 = .ok (.iconst 0, 1) := by decide +kernel
theorem dX4_lookBehind_13 : decode cX4_lookBehind 13 = .ok (.istore_n 2, 1) := by decide +kernel
theorem dX4_lookBehind_14 : decode cX4_lookBehind 14 = .ok (.iload_n 1, 1) := by decide +kernel
theorem dX4_lookBehind_15 : decode cX4_lookBehind 15 = .ok (.iconst 2, 1) := by decide +kernel
theorem dX4_lookBehind_16 : decode cX4_lookBehind 16 = .ok (.if_icmp .ne 11, 3) := by decide +kernel
theorem dX4_lookBehind_19 : decode cX4_lookBehind 19 = .ok (.iload_n 0, 1) := by decide +kernel
theorem dX4_lookBehind_20 : decode cX4_lookBehind 20 = .ok (.iconst 2, 1) := by decide +kernel
theorem dX4_lookBehind_21 : decode cX4_lookBehind 21 = .ok (.iadd, 1) := by decide +kernel
theorem dX4_lookBehind_22 : decode cX4_lookBehind 22 = .ok (.iconst 4, 1) := by decide +kernel
theorem dX4_lookBehind_23 : decode cX4_lookBehind 23 = .ok (.irem, 1) := by decide +kernel
theorem dX4_lookBehind_24 : decode cX4_lookBehind 24 = .ok (.goto 20, 3) := by decide +kernel
theorem dX4_lookBehind_27 : decode cX4_lookBehind 27 = .ok (.iload_n 2, 1) := by decide +kernel
theorem dX4_lookBehind_28 : decode cX4_lookBehind 28 = .ok (.ifCond .eq 11, 3) := by decide +kernel
theorem dX4_lookBehind_31 : decode cX4_lookBehind 31 = .ok (.iload_n 0, 1) := by decide +kernel
theorem dX4_lookBehind_32 : decode cX4_lookBehind 32 = .ok (.iconst 1, 1) := by decide +kernel
theorem dX4_lookBehind_33 : decode cX4_lookBehind 33 = .ok (.iadd, 1) := by decide +kernel
theorem dX4_lookBehind_34 : decode cX4_lookBehind 34 = .ok (.iconst 4, 1) := by decide +kernel
theorem dX4_lookBehind_35 : decode cX4_lookBehind 35 = .ok (.irem, 1) := by decide +kernel
theorem dX4_lookBehind_36 : decode cX4_lookBehind 36 = .ok (.goto 8, 3) := by decide +kernel
theorem dX4_lookBehind_39 : decode cX4_lookBehind 39 = .ok (.iload_n 0, 1) := by decide +kernel
theorem dX4_lookBehind_40 : decode cX4_lookBehind 40 = .ok (.iconst 3, 1) := by decide +kernel
theorem dX4_lookBehind_41 : decode cX4_lookBehind 41 = .ok (.iadd, 1) := by decide +kernel
theorem dX4_lookBehind_42 : decode cX4_lookBehind 42 = .ok (.iconst 4, 1) := by decide +kernel
theorem dX4_lookBehind_43 : decode cX4_lookBehind 43 = .ok (.irem, 1) := by decide +kernel
theorem dX4_lookBehind_44 : decode cX4_lookBehind 44 = .ok (.ireturn, 1) := by decide +kernel
theorem dX4_comesIn_0 : decode cX4_comesIn 0 = .ok (.aload_n 0, 1) := by decide +kernel
theorem dX4_comesIn_1 : decode cX4_comesIn 1 = .ok (.getfield 7, 3) := by decide +kernel
theorem dX4_comesIn_4 : decode cX4_comesIn 4 = .ok (.iconst 4, 1) := by decide +kernel
theorem dX4_comesIn_5 : decode cX4_comesIn 5 = .ok (.dup2, 1) := by decide +kernel
theorem dX4_comesIn_6 : decode cX4_comesIn 6 = .ok (.iaload, 1) := by decide +kernel
theorem dX4_comesIn_7 : decode cX4_comesIn 7 = .ok (.iconst 1, 1) := by decide +kernel
theorem dX4_comesIn_8 : decode cX4_comesIn 8 = .ok (.iadd, 1) := by decide +kernel
theorem dX4_comesIn_9 : decode cX4_comesIn 9 = .ok (.iastore, 1) := by decide +kernel
theorem dX4_comesIn_10 : decode cX4_comesIn 10 = .ok (.aload_n 0, 1) := by decide +kernel
theorem dX4_comesIn_11 : decode cX4_comesIn 11 = .ok (.getfield 7, 3) := by decide +kernel
theorem dX4_comesIn_14 : decode cX4_comesIn 14 = .ok (.iconst 5, 1) := by decide +kernel
theorem dX4_comesIn_15 : decode cX4_comesIn 15 = .ok (.aload_n 0, 1) := by decide +kernel
theorem dX4_comesIn_16 : decode cX4_comesIn 16 = .ok (.getfield 7, 3) := by decide +kernel
theorem dX4_comesIn_19 : decode cX4_comesIn 19 = .ok (.iconst 4, 1) := by decide +kernel
theorem dX4_comesIn_20 : decode cX4_comesIn 20 = .ok (.iaload, 1) := by decide +kernel
theorem dX4_comesIn_21 : decode cX4_comesIn 21 = .ok (.aload_n 0, 1) := by decide +kernel
theorem dX4_comesIn_22 : decode cX4_comesIn 22 = .ok (.getfield 7, 3) := by decide +kernel
theorem dX4_comesIn_25 : decode cX4_comesIn 25 = .ok (.iconst 5, 1) := by decide +kernel
theorem dX4_comesIn_26 : decode cX4_comesIn 26 = .ok (.iaload, 1) := by decide +kernel
theorem dX4_comesIn_27 : decode cX4_comesIn 27 = .ok (.if_icmp .le 12, 3) := by decide +kernel
theorem dX4_comesIn_30 : decode cX4_comesIn 30 = .ok (.aload_n 0, 1) := by decide +kernel
theorem dX4_comesIn_31 : decode cX4_comesIn 31 = .ok (.getfield 7, 3) := by decide +kernel
theorem dX4_comesIn_34 : decode cX4_comesIn 34 = .ok (.iconst 4, 1) := by decide +kernel
theorem dX4_comesIn_35 : decode cX4_comesIn 35 = .ok (.iaload, 1) := by decide +kernel
theorem dX4_comesIn_36 : decode cX4_comesIn 36 = .ok (.goto 9, 3) := by decide +kernel
theorem dX4_comesIn_39 : decode cX4_comesIn 39 = .ok (.aload_n 0, 1) := by decide +kernel
theorem dX4_comesIn_40 : decode cX4_comesIn 40 = .ok (.getfield 7, 3) := by decide +kernel
theorem dX4_comesIn_43 : decode cX4_comesIn 43 = .ok (.iconst 5, 1) := by decide +kernel
theorem dX4_comesIn_44 : decode cX4_comesIn 44 = .ok (.iaload, 1) := by decide +kernel
theorem dX4_comesIn_45 : decode cX4_comesIn 45 = .ok (.iastore, 1) := by decide +kernel
theorem dX4_comesIn_46 : decode cX4_comesIn 46 = .ok (.aload_n 0, 1) := by decide +kernel
theorem dX4_comesIn_47 : decode cX4_comesIn 47 = .ok (.getfield 7, 3) := by decide +kernel
theorem dX4_comesIn_50 : decode cX4_comesIn 50 = .ok (.bipush 6, 2) := by decide +kernel
theorem dX4_comesIn_52 : decode cX4_comesIn 52 = .ok (.dup2, 1) := by decide +kernel
theorem dX4_comesIn_53 : decode cX4_comesIn 53 = .ok (.iaload, 1) := by decide +kernel
theorem dX4_comesIn_54 : decode cX4_comesIn 54 = .ok (.aload_n 0, 1) := by decide +kernel
theorem dX4_comesIn_55 : decode cX4_comesIn 55 = .ok (.getfield 7, 3) := by decide +kernel
theorem dX4_comesIn_58 : decode cX4_comesIn 58 = .ok (.iconst 4, 1) := by decide +kernel
theorem dX4_comesIn_59 : decode cX4_comesIn 59 = .ok (.iaload, 1) := by decide +kernel
theorem dX4_comesIn_60 : decode cX4_comesIn 60 = .ok (.aload_n 0, 1) := by decide +kernel
theorem dX4_comesIn_61 : decode cX4_comesIn 61 = .ok (.getfield 7, 3) := by decide +kernel
theorem dX4_comesIn_64 : decode cX4_comesIn 64 = .ok (.iconst 2, 1) := by decide +kernel
theorem dX4_comesIn_65 : decode cX4_comesIn 65 = .ok (.iaload, 1) := by decide +kernel
theorem dX4_comesIn_66 : decode cX4_comesIn 66 = .ok (.if_icmp .le 7, 3) := by decide +kernel
theorem dX4_comesIn_69 : decode cX4_comesIn 69 = .ok (.iconst 1, 1) := by decide +kernel
theorem dX4_comesIn_70 : decode cX4_comesIn 70 = .ok (.goto 4, 3) := by decide +kernel
theorem dX4_comesIn_73 : decode cX4_comesIn 73 = .ok (.iconst 0, 1) := by decide +kernel
theorem dX4_comesIn_74 : decode cX4_comesIn 74 = .ok (.iadd, 1) := by decide +kernel
theorem dX4_comesIn_75 : decode cX4_comesIn 75 = .ok (.iastore, 1) := by decide +kernel
theorem dX4_comesIn_76 : decode cX4_comesIn 76 = .ok (.return_, 1) := by decide +kernel
theorem dX4_goesOut_0 : decode cX4_goesOut 0 = .ok (.aload_n 0, 1) := by decide +kernel
theorem dX4_goesOut_1 : decode cX4_goesOut 1 = .ok (.getfield 7, 3) := by decide +kernel
theorem dX4_goesOut_4 : decode cX4_goesOut 4 = .ok (.bipush 7, 2) := by decide +kernel
theorem dX4_goesOut_6 : decode cX4_goesOut 6 = .ok (.dup2, 1) := by decide +kernel
theorem dX4_goesOut_7 : decode cX4_goesOut 7 = .ok (.iaload, 1) := by decide +kernel
theorem dX4_goesOut_8 : decode cX4_goesOut 8 = .ok (.aload_n 0, 1) := by decide +kernel
theorem dX4_goesOut_9 : decode cX4_goesOut 9 = .ok (.getfield 7, 3) := by decide +kernel
theorem dX4_goesOut_12 : decode cX4_goesOut 12 = .ok (.iconst 4, 1) := by decide +kernel
theorem dX4_goesOut_13 : decode cX4_goesOut 13 = .ok (.iaload, 1) := by decide +kernel
theorem dX4_goesOut_14 : decode cX4_goesOut 14 = .ok (.ifCond .ne 7, 3) := by decide +kernel
theorem dX4_goesOut_17 : decode cX4_goesOut 17 = .ok (.iconst 1, 1) := by decide +kernel
theorem dX4_goesOut_18 : decode cX4_goesOut 18 = .ok (.goto 4, 3) := by decide +kernel
theorem dX4_goesOut_21 : decode cX4_goesOut 21 = .ok (.iconst 0, 1) := by decide +kernel
theorem dX4_goesOut_22 : decode cX4_goesOut 22 = .ok (.iadd, 1) := by decide +kernel
theorem dX4_goesOut_23 : decode cX4_goesOut 23 = .ok (.iastore, 1) := by decide +kernel
theorem dX4_goesOut_24 : decode cX4_goesOut 24 = .ok (.aload_n 0, 1) := by decide +kernel
theorem dX4_goesOut_25 : decode cX4_goesOut 25 = .ok (.getfield 7, 3) := by decide +kernel
theorem dX4_goesOut_28 : decode cX4_goesOut 28 = .ok (.iconst 4, 1) := by decide +kernel
theorem dX4_goesOut_29 : decode cX4_goesOut 29 = .ok (.dup2, 1) := by decide +kernel
theorem dX4_goesOut_30 : decode cX4_goesOut 30 = .ok (.iaload, 1) := by decide +kernel
theorem dX4_goesOut_31 : decode cX4_goesOut 31 = .ok (.aload_n 0, 1) := by decide +kernel
theorem dX4_goesOut_32 : decode cX4_goesOut 32 = .ok (.getfield 7, 3) := by decide +kernel
theorem dX4_goesOut_35 : decode cX4_goesOut 35 = .ok (.iconst 4, 1) := by decide +kernel
theorem dX4_goesOut_36 : decode cX4_goesOut 36 = .ok (.iaload, 1) := by decide +kernel
theorem dX4_goesOut_37 : decode cX4_goesOut 37 = .ok (.ifCond .le 7, 3) := by decide +kernel
theorem dX4_goesOut_40 : decode cX4_goesOut 40 = .ok (.iconst 1, 1) := by decide +kernel
theorem dX4_goesOut_41 : decode cX4_goesOut 41 = .ok (.goto 4, 3) := by decide +kernel
theorem dX4_goesOut_44 : decode cX4_goesOut 44 = .ok (.iconst 0, 1) := by decide +kernel
theorem dX4_goesOut_45 : decode cX4_goesOut 45 = .ok (.isub, 1) := by decide +kernel
theorem dX4_goesOut_46 : decode cX4_goesOut 46 = .ok (.iastore, 1) := by decide +kernel
theorem dX4_goesOut_47 : decode cX4_goesOut 47 = .ok (.return_, 1) := by decide +kernel
set_option maxRecDepth 20000 in
theorem ggX4_counts_X4_get : GoodIn wsX4_counts wsX4_get := goodIn_r _ [6, 1, 23, 24, 25, 26, 27, 28, 29, 30, 31, 32] (by decide +kernel) (by decide +kernel)
set_option maxRecDepth 20000 in
theorem gX4_counts_X4_get : GoodIn wsX4_counts (wsV RX4 42 RX4 yX4_get wsX4_get) := goodIn_app (goodIn_of _ (by decide +kernel)) ggX4_counts_X4_get
set_option maxRecDepth 20000 in
theorem ggX4_counts_X4_more : GoodIn wsX4_counts wsX4_more := goodIn_r _ [10, 1, 23, 24, 25, 26, 27, 28, 29, 30, 31, 32] (by decide +kernel) (by decide +kernel)
set_option maxRecDepth 20000 in
theorem gX4_counts_X4_more : GoodIn wsX4_counts (wsV RX4 50 RX4 yX4_more wsX4_more) := goodIn_app (goodIn_of _ (by decide +kernel)) ggX4_counts_X4_more
set_option maxRecDepth 20000 in
theorem ggX4_counts_X4_lays : GoodIn wsX4_counts wsX4_lays := goodIn_r _ [14, 1, 23, 24, 25, 26, 27, 28, 29, 30, 31, 32] (by decide +kernel) (by decide +kernel)
set_option maxRecDepth 20000 in
theorem gX4_counts_X4_lays : GoodIn wsX4_counts (wsV RX4 28 RX4 yX4_lays wsX4_lays) := goodIn_app (goodIn_of _ (by decide +kernel)) ggX4_counts_X4_lays
set_option maxRecDepth 20000 in
theorem ggX4_counts_X4_comesIn : GoodIn wsX4_counts wsX4_comesIn := goodIn_r _ [18, 1, 23, 24, 25, 26, 27, 28, 29, 30, 31, 32] (by decide +kernel) (by decide +kernel)
set_option maxRecDepth 20000 in
theorem gX4_counts_X4_comesIn : GoodIn wsX4_counts (wsV RX4 53 RX4 yX4_comesIn wsX4_comesIn) := goodIn_app (goodIn_of _ (by decide +kernel)) ggX4_counts_X4_comesIn
set_option maxRecDepth 20000 in
theorem ggX4_counts_X4_goesOut : GoodIn wsX4_counts wsX4_goesOut := goodIn_r _ [22, 1, 23, 24, 25, 26, 27, 28, 29, 30, 31, 32] (by decide +kernel) (by decide +kernel)
set_option maxRecDepth 20000 in
theorem gX4_counts_X4_goesOut : GoodIn wsX4_counts (wsV RX4 56 RX4 yX4_goesOut wsX4_goesOut) := goodIn_app (goodIn_of _ (by decide +kernel)) ggX4_counts_X4_goesOut
theorem dX4_counts_0 : decode cX4_counts 0 = .ok (.aload_n 0, 1) := by decide +kernel
theorem dX4_counts_1 : decode cX4_counts 1 = .ok (.iload_n 1, 1) := by decide +kernel
theorem dX4_counts_2 : decode cX4_counts 2 = .ok (.bipush 11, 2) := by decide +kernel
theorem dX4_counts_4 : decode cX4_counts 4 = .ok (.invokevirtual 42, 3) := by decide +kernel
theorem dX4_counts_7 : decode cX4_counts 7 = .ok (.bipush (-6), 2) := by decide +kernel
theorem dX4_counts_9 : decode cX4_counts 9 = .ok (.if_icmp .eq 41, 3) := by decide +kernel
theorem dX4_counts_12 : decode cX4_counts 12 = .ok (.aload_n 0, 1) := by decide +kernel
theorem dX4_counts_13 : decode cX4_counts 13 = .ok (.iload_n 1, 1) := by decide +kernel
theorem dX4_counts_14 : decode cX4_counts 14 = .ok (.bipush 12, 2) := by decide +kernel
theorem dX4_counts_16 : decode cX4_counts 16 = .ok (.invokevirtual 42, 3) := by decide +kernel
theorem dX4_counts_19 : decode cX4_counts 19 = .ok (.iload_n 2, 1) := by decide +kernel
theorem dX4_counts_20 : decode cX4_counts 20 = .ok (.if_icmp .ne 30, 3) := by decide +kernel
theorem dX4_counts_23 : decode cX4_counts 23 = .ok (.aload_n 0, 1) := by decide +kernel
theorem dX4_counts_24 : decode cX4_counts 24 = .ok (.iload_n 1, 1) := by decide +kernel
theorem dX4_counts_25 : decode cX4_counts 25 = .ok (.iconst 1, 1) := by decide +kernel
theorem dX4_counts_26 : decode cX4_counts 26 = .ok (.invokevirtual 42, 3) := by decide +kernel
theorem dX4_counts_29 : decode cX4_counts 29 = .ok (.aload_n 0, 1) := by decide +kernel
theorem dX4_counts_30 : decode cX4_counts 30 = .ok (.iload_n 1, 1) := by decide +kernel
theorem dX4_counts_31 : decode cX4_counts 31 = .ok (.bipush 11, 2) := by decide +kernel
theorem dX4_counts_33 : decode cX4_counts 33 = .ok (.invokevirtual 42, 3) := by decide +kernel
theorem dX4_counts_36 : decode cX4_counts 36 = .ok (.isub, 1) := by decide +kernel
theorem dX4_counts_37 : decode cX4_counts 37 = .ok (.aload_n 0, 1) := by decide +kernel
theorem dX4_counts_38 : decode cX4_counts 38 = .ok (.getfield 7, 3) := by decide +kernel
theorem dX4_counts_41 : decode cX4_counts 41 = .ok (.iconst 1, 1) := by decide +kernel
theorem dX4_counts_42 : decode cX4_counts 42 = .ok (.iaload, 1) := by decide +kernel
theorem dX4_counts_43 : decode cX4_counts 43 = .ok (.if_icmp .gt 7, 3) := by decide +kernel
theorem dX4_counts_46 : decode cX4_counts 46 = .ok (.iconst 1, 1) := by decide +kernel
theorem dX4_counts_47 : decode cX4_counts 47 = .ok (.goto 4, 3) := by decide +kernel
theorem dX4_counts_50 : decode cX4_counts 50 = .ok (.iconst 0, 1) := by decide +kernel
theorem dX4_counts_51 : decode cX4_counts 51 = .ok (.istore_n 3, 1) := by decide +kernel
theorem dX4_counts_52 : decode cX4_counts 52 = .ok (.aload_n 0, 1) := by decide +kernel
theorem dX4_counts_53 : decode cX4_counts 53 = .ok (.iload_n 1, 1) := by decide +kernel
theorem dX4_counts_54 : decode cX4_counts 54 = .ok (.bipush 9, 2) := by decide +kernel
theorem dX4_counts_56 : decode cX4_counts 56 = .ok (.iload_n 3, 1) := by decide +kernel
theorem dX4_counts_57 : decode cX4_counts 57 = .ok (.ifCond .eq 7, 3) := by decide +kernel
theorem dX4_counts_60 : decode cX4_counts 60 = .ok (.iconst 1, 1) := by decide +kernel
theorem dX4_counts_61 : decode cX4_counts 61 = .ok (.goto 4, 3) := by decide +kernel
theorem dX4_counts_64 : decode cX4_counts 64 = .ok (.iconst 0, 1) := by decide +kernel
theorem dX4_counts_65 : decode cX4_counts 65 = .ok (.invokevirtual 50, 3) := by decide +kernel
theorem dX4_counts_68 : decode cX4_counts 68 = .ok (.aload_n 0, 1) := by decide +kernel
theorem dX4_counts_69 : decode cX4_counts 69 = .ok (.iload_n 1, 1) := by decide +kernel
theorem dX4_counts_70 : decode cX4_counts 70 = .ok (.bipush 10, 2) := by decide +kernel
theorem dX4_counts_72 : decode cX4_counts 72 = .ok (.aload_n 0, 1) := by decide +kernel
theorem dX4_counts_73 : decode cX4_counts 73 = .ok (.getfield 7, 3) := by decide +kernel
theorem dX4_counts_76 : decode cX4_counts 76 = .ok (.iconst 3, 1) := by decide +kernel
theorem dX4_counts_77 : decode cX4_counts 77 = .ok (.iaload, 1) := by decide +kernel
theorem dX4_counts_78 : decode cX4_counts 78 = .ok (.aload_n 0, 1) := by decide +kernel
theorem dX4_counts_79 : decode cX4_counts 79 = .ok (.iload_n 1, 1) := by decide +kernel
theorem dX4_counts_80 : decode cX4_counts 80 = .ok (.iconst 1, 1) := by decide +kernel
theorem dX4_counts_81 : decode cX4_counts 81 = .ok (.invokevirtual 42, 3) := by decide +kernel
theorem dX4_counts_84 : decode cX4_counts 84 = .ok (.isub, 1) := by decide +kernel
theorem dX4_counts_85 : decode cX4_counts 85 = .ok (.invokevirtual 50, 3) := by decide +kernel
theorem dX4_counts_88 : decode cX4_counts 88 = .ok (.aload_n 0, 1) := by decide +kernel
theorem dX4_counts_89 : decode cX4_counts 89 = .ok (.iload_n 1, 1) := by decide +kernel
theorem dX4_counts_90 : decode cX4_counts 90 = .ok (.bipush 11, 2) := by decide +kernel
theorem dX4_counts_92 : decode cX4_counts 92 = .ok (.aload_n 0, 1) := by decide +kernel
theorem dX4_counts_93 : decode cX4_counts 93 = .ok (.getfield 7, 3) := by decide +kernel
theorem dX4_counts_96 : decode cX4_counts 96 = .ok (.iconst 3, 1) := by decide +kernel
theorem dX4_counts_97 : decode cX4_counts 97 = .ok (.iaload, 1) := by decide +kernel
theorem dX4_counts_98 : decode cX4_counts 98 = .ok (.invokevirtual 28, 3) := by decide +kernel
theorem dX4_counts_101 : decode cX4_counts 101 = .ok (.aload_n 0, 1) := by decide +kernel
theorem dX4_counts_102 : decode cX4_counts 102 = .ok (.iload_n 1, 1) := by decide +kernel
theorem dX4_counts_103 : decode cX4_counts 103 = .ok (.bipush 12, 2) := by decide +kernel
theorem dX4_counts_105 : decode cX4_counts 105 = .ok (.iload_n 2, 1) := by decide +kernel
theorem dX4_counts_106 : decode cX4_counts 106 = .ok (.invokevirtual 28, 3) := by decide +kernel
theorem dX4_counts_109 : decode cX4_counts 109 = .ok (.iload_n 2, 1) := by decide +kernel
theorem dX4_counts_110 : decode cX4_counts 110 = .ok (.iconst 4, 1) := by decide +kernel
theorem dX4_counts_111 : decode cX4_counts 111 = .ok (.if_icmp .ne 10, 3) := by decide +kernel
theorem dX4_counts_114 : decode cX4_counts 114 = .ok (.aload_n 0, 1) := by decide +kernel
theorem dX4_counts_115 : decode cX4_counts 115 = .ok (.invokevirtual 53, 3) := by decide +kernel
theorem dX4_counts_118 : decode cX4_counts 118 = .ok (.goto 7, 3) := by decide +kernel
theorem dX4_counts_121 : decode cX4_counts 121 = .ok (.aload_n 0, 1) := by decide +kernel
theorem dX4_counts_122 : decode cX4_counts 122 = .ok (.invokevirtual 56, 3) := by decide +kernel
theorem dX4_counts_125 : decode cX4_counts 125 = .ok (.return_, 1) := by decide +kernel
set_option maxRecDepth 20000 in
theorem ggX4_ends_X4_more : GoodIn wsX4_ends wsX4_more := goodIn_r _ [5, 6, 35, 36, 37, 38, 39, 40, 41, 42, 43, 44] (by decide +kernel) (by decide +kernel)
set_option maxRecDepth 20000 in
theorem gX4_ends_X4_more : GoodIn wsX4_ends (wsV RX4 50 RX4 yX4_more wsX4_more) := goodIn_app (goodIn_of _ (by decide +kernel)) ggX4_ends_X4_more
set_option maxRecDepth 20000 in
theorem ggX4_ends_X4_isBlocked : GoodIn wsX4_ends wsX4_isBlocked := goodIn_r _ [10, 6, 11, 12, 13, 4, 14, 15, 16, 17, 18, 35, 36, 37, 38, 39, 40, 41, 42, 43, 44] (by decide +kernel) (by decide +kernel)
set_option maxRecDepth 20000 in
theorem gX4_ends_X4_isBlocked : GoodIn wsX4_ends (wsV RX4 59 RX4 yX4_isBlocked wsX4_isBlocked) := goodIn_app (goodIn_of _ (by decide +kernel)) ggX4_ends_X4_isBlocked
set_option maxRecDepth 20000 in
theorem ggX4_ends_X4_counts : GoodIn wsX4_ends wsX4_counts := goodIn_r _ [22, 6, 15, 16, 17, 4, 18, 1, 2, 3, 5, 23, 24, 25, 26, 27, 28, 29, 30, 31, 32, 33, 34, 35, 36, 37, 38, 39, 40, 41, 42, 43, 44] (by decide +kernel) (by decide +kernel)
set_option maxRecDepth 20000 in
theorem gX4_ends_X4_counts : GoodIn wsX4_ends (wsV RX4 62 RX4 yX4_counts wsX4_counts) := goodIn_app (goodIn_of _ (by decide +kernel)) ggX4_ends_X4_counts
set_option maxRecDepth 20000 in
theorem ggX4_ends_X4_lays : GoodIn wsX4_ends wsX4_lays := goodIn_r _ [26, 6, 35, 36, 37, 38, 39, 40, 41, 42, 43, 44] (by decide +kernel) (by decide +kernel)
set_option maxRecDepth 20000 in
theorem gX4_ends_X4_lays : GoodIn wsX4_ends (wsV RX4 28 RX4 yX4_lays wsX4_lays) := goodIn_app (goodIn_of _ (by decide +kernel)) ggX4_ends_X4_lays
theorem dX4_ends_0 : decode cX4_ends 0 = .ok (.aload_n 0, 1) := by decide +kernel
theorem dX4_ends_1 : decode cX4_ends 1 = .ok (.iload_n 1, 1) := by decide +kernel
theorem dX4_ends_2 : decode cX4_ends 2 = .ok (.iload_n 2, 1) := by decide +kernel
theorem dX4_ends_3 : decode cX4_ends 3 = .ok (.iconst 1, 1) := by decide +kernel
theorem dX4_ends_4 : decode cX4_ends 4 = .ok (.invokevirtual 50, 3) := by decide +kernel
theorem dX4_ends_7 : decode cX4_ends 7 = .ok (.aload_n 0, 1) := by decide +kernel
theorem dX4_ends_8 : decode cX4_ends 8 = .ok (.iload_n 1, 1) := by decide +kernel
theorem dX4_ends_9 : decode cX4_ends 9 = .ok (.bipush 8, 2) := by decide +kernel
theorem dX4_ends_11 : decode cX4_ends 11 = .ok (.aload_n 0, 1) := by decide +kernel
theorem dX4_ends_12 : decode cX4_ends 12 = .ok (.iload_n 1, 1) := by decide +kernel
theorem dX4_ends_13 : decode cX4_ends 13 = .ok (.invokevirtual 59, 3) := by decide +kernel
theorem dX4_ends_16 : decode cX4_ends 16 = .ok (.ifCond .eq 7, 3) := by decide +kernel
theorem dX4_ends_19 : decode cX4_ends 19 = .ok (.iconst 1, 1) := by decide +kernel
theorem dX4_ends_20 : decode cX4_ends 20 = .ok (.goto 4, 3) := by decide +kernel
theorem dX4_ends_23 : decode cX4_ends 23 = .ok (.iconst 0, 1) := by decide +kernel
theorem dX4_ends_24 : decode cX4_ends 24 = .ok (.invokevirtual 50, 3) := by decide +kernel
theorem dX4_ends_27 : decode cX4_ends 27 = .ok (.iload_n 2, 1) := by decide +kernel
theorem dX4_ends_28 : decode cX4_ends 28 = .ok (.iconst 4, 1) := by decide +kernel
theorem dX4_ends_29 : decode cX4_ends 29 = .ok (.if_icmp .eq 8, 3) := by decide +kernel
theorem dX4_ends_32 : decode cX4_ends 32 = .ok (.iload_n 2, 1) := by decide +kernel
theorem dX4_ends_33 : decode cX4_ends 33 = .ok (.iconst 5, 1) := by decide +kernel
theorem dX4_ends_34 : decode cX4_ends 34 = .ok (.if_icmp .ne 9, 3) := by decide +kernel
theorem dX4_ends_37 : decode cX4_ends 37 = .ok (.aload_n 0, 1) := by decide +kernel
theorem dX4_ends_38 : decode cX4_ends 38 = .ok (.iload_n 1, 1) := by decide +kernel
theorem dX4_ends_39 : decode cX4_ends 39 = .ok (.iload_n 2, 1) := by decide +kernel
theorem dX4_ends_40 : decode cX4_ends 40 = .ok (.invokevirtual 62, 3) := by decide +kernel
theorem dX4_ends_43 : decode cX4_ends 43 = .ok (.aload_n 0, 1) := by decide +kernel
theorem dX4_ends_44 : decode cX4_ends 44 = .ok (.iload_n 1, 1) := by decide +kernel
theorem dX4_ends_45 : decode cX4_ends 45 = .ok (.iconst 1, 1) := by decide +kernel
theorem dX4_ends_46 : decode cX4_ends 46 = .ok (.bipush (-6), 2) := by decide +kernel
theorem dX4_ends_48 : decode cX4_ends 48 = .ok (.invokevirtual 28, 3) := by decide +kernel
theorem dX4_ends_51 : decode cX4_ends 51 = .ok (.aload_n 0, 1) := by decide +kernel
theorem dX4_ends_52 : decode cX4_ends 52 = .ok (.iload_n 1, 1) := by decide +kernel
theorem dX4_ends_53 : decode cX4_ends 53 = .ok (.iconst 2, 1) := by decide +kernel
theorem dX4_ends_54 : decode cX4_ends 54 = .ok (.iconst 0, 1) := by decide +kernel
theorem dX4_ends_55 : decode cX4_ends 55 = .ok (.invokevirtual 28, 3) := by decide +kernel
theorem dX4_ends_58 : decode cX4_ends 58 = .ok (.aload_n 0, 1) := by decide +kernel
theorem dX4_ends_59 : decode cX4_ends 59 = .ok (.iload_n 1, 1) := by decide +kernel
theorem dX4_ends_60 : decode cX4_ends 60 = .ok (.iconst 3, 1) := by decide +kernel
theorem dX4_ends_61 : decode cX4_ends 61 = .ok (.iconst 0, 1) := by decide +kernel
theorem dX4_ends_62 : decode cX4_ends 62 = .ok (.invokevirtual 28, 3) := by decide +kernel
theorem dX4_ends_65 : decode cX4_ends 65 = .ok (.aload_n 0, 1) := by decide +kernel
theorem dX4_ends_66 : decode cX4_ends 66 = .ok (.iload_n 1, 1) := by decide +kernel
theorem dX4_ends_67 : decode cX4_ends 67 = .ok (.iconst 0, 1) := by decide +kernel
theorem dX4_ends_68 : decode cX4_ends 68 = .ok (.iconst 0, 1) := by decide +kernel
theorem dX4_ends_69 : decode cX4_ends 69 = .ok (.invokevirtual 28, 3) := by decide +kernel
theorem dX4_ends_72 : decode cX4_ends 72 = .ok (.return_, 1) := by decide +kernel
set_option maxRecDepth 20000 in
theorem ggX4_happens_X4_get : GoodIn wsX4_happens wsX4_get := goodIn_r _ [6, 1, 42, 43, 44, 45, 46, 47, 48, 49, 50, 51] (by decide +kernel) (by decide +kernel)
set_option maxRecDepth 20000 in
theorem gX4_happens_X4_get : GoodIn wsX4_happens (wsV RX4 42 RX4 yX4_get wsX4_get) := goodIn_app (goodIn_of _ (by decide +kernel)) ggX4_happens_X4_get
set_option maxRecDepth 20000 in
theorem ggX4_happens_X4_lookBehind : GoodIn wsX4_happens wsX4_lookBehind := goodIn_r _ [9] (by decide +kernel) (by decide +kernel)
set_option maxRecDepth 20000 in
theorem gX4_happens_X4_lookBehind : GoodIn wsX4_happens (va_wsS RX4 66 yX4_lookBehind wsX4_lookBehind) := goodIn_app (goodIn_of _ (by decide +kernel)) ggX4_happens_X4_lookBehind
set_option maxRecDepth 20000 in
theorem ggX4_happens_X4_isUnderWay : GoodIn wsX4_happens wsX4_isUnderWay := goodIn_r _ [13, 2, 3, 4, 5, 6, 1, 42, 43, 44, 45, 46, 47, 48, 49, 50, 51] (by decide +kernel) (by decide +kernel)
set_option maxRecDepth 20000 in
theorem gX4_happens_X4_isUnderWay : GoodIn wsX4_happens (wsV RX4 46 RX4 yX4_isUnderWay wsX4_isUnderWay) := goodIn_app (goodIn_of _ (by decide +kernel)) ggX4_happens_X4_isUnderWay
set_option maxRecDepth 20000 in
theorem ggX4_happens_X4_lays : GoodIn wsX4_happens wsX4_lays := goodIn_r _ [17, 1, 42, 43, 44, 45, 46, 47, 48, 49, 50, 51] (by decide +kernel) (by decide +kernel)
set_option maxRecDepth 20000 in
theorem gX4_happens_X4_lays : GoodIn wsX4_happens (wsV RX4 28 RX4 yX4_lays wsX4_lays) := goodIn_app (goodIn_of _ (by decide +kernel)) ggX4_happens_X4_lays
set_option maxRecDepth 20000 in
theorem ggX4_happens_X4_more : GoodIn wsX4_happens wsX4_more := goodIn_r _ [21, 1, 42, 43, 44, 45, 46, 47, 48, 49, 50, 51] (by decide +kernel) (by decide +kernel)
set_option maxRecDepth 20000 in
theorem gX4_happens_X4_more : GoodIn wsX4_happens (wsV RX4 50 RX4 yX4_more wsX4_more) := goodIn_app (goodIn_of _ (by decide +kernel)) ggX4_happens_X4_more
set_option maxRecDepth 20000 in
theorem ggX4_happens_X4_ends : GoodIn wsX4_happens wsX4_ends := goodIn_r _ [25, 18, 19, 20, 5, 21, 1, 26, 27, 28, 29, 10, 11, 12, 13, 2, 3, 4, 6, 30, 31, 32, 33, 14, 15, 16, 17, 34, 35, 36, 37, 38, 39, 40, 41, 42, 43, 44, 45, 46, 47, 48, 49, 50, 51] (by decide +kernel) (by decide +kernel)
set_option maxRecDepth 20000 in
theorem gX4_happens_X4_ends : GoodIn wsX4_happens (wsV RX4 69 RX4 yX4_ends wsX4_ends) := goodIn_app (goodIn_of _ (by decide +kernel)) ggX4_happens_X4_ends
theorem dX4_happens_0 : decode cX4_happens 0 = .ok (.aload_n 0, 1) := by decide +kernel
theorem dX4_happens_1 : decode cX4_happens 1 = .ok (.iload_n 1, 1) := by decide +kernel
theorem dX4_happens_2 : decode cX4_happens 2 = .ok (.iconst 0, 1) := by decide +kernel
theorem dX4_happens_3 : decode cX4_happens 3 = .ok (.invokevirtual 42, 3) := by decide +kernel
theorem dX4_happens_6 : decode cX4_happens 6 = .ok (.istore_n 3, 1) := by decide +kernel
theorem dX4_happens_7 : decode cX4_happens 7 = .ok (.iload_n 3, 1) := by decide +kernel
theorem dX4_happens_8 : decode cX4_happens 8 = .ok (.iload_n 2, 1) := by decide +kernel
theorem dX4_happens_9 : decode cX4_happens 9 = .ok (.invokestatic 66, 3) := by decide +kernel
theorem dX4_happens_12 : decode cX4_happens 12 = .ok (.istore 4, 2) := by decide +kernel
theorem dX4_happens_14 : decode cX4_happens 14 = .ok (.aload_n 0, 1) := by decide +kernel
theorem dX4_happens_15 : decode cX4_happens 15 = .ok (.iload_n 1, 1) := by decide +kernel
theorem dX4_happens_16 : decode cX4_happens 16 = .ok (.invokevirtual 46, 3) := by decide +kernel
theorem dX4_happens_19 : decode cX4_happens 19 = .ok (.ifCond .ne 29, 3) := by decide +kernel
theorem dX4_happens_22 : decode cX4_happens 22 = .ok (.aload_n 0, 1) := by decide +kernel
theorem dX4_happens_23 : decode cX4_happens 23 = .ok (.iload_n 1, 1) := by decide +kernel
theorem dX4_happens_24 : decode cX4_happens 24 = .ok (.iconst 1, 1) := by decide +kernel
theorem dX4_happens_25 : decode cX4_happens 25 = .ok (.aload_n 0, 1) := by decide +kernel
theorem dX4_happens_26 : decode cX4_happens 26 = .ok (.getfield 7, 3) := by decide +kernel
theorem dX4_happens_29 : decode cX4_happens 29 = .ok (.iconst 3, 1) := by decide +kernel
theorem dX4_happens_30 : decode cX4_happens 30 = .ok (.iaload, 1) := by decide +kernel
theorem dX4_happens_31 : decode cX4_happens 31 = .ok (.invokevirtual 28, 3) := by decide +kernel
theorem dX4_happens_34 : decode cX4_happens 34 = .ok (.aload_n 0, 1) := by decide +kernel
theorem dX4_happens_35 : decode cX4_happens 35 = .ok (.iload_n 1, 1) := by decide +kernel
theorem dX4_happens_36 : decode cX4_happens 36 = .ok (.iconst 2, 1) := by decide +kernel
theorem dX4_happens_37 : decode cX4_happens 37 = .ok (.iconst 0, 1) := by decide +kernel
theorem dX4_happens_38 : decode cX4_happens 38 = .ok (.invokevirtual 28, 3) := by decide +kernel
theorem dX4_happens_41 : decode cX4_happens 41 = .ok (.aload_n 0, 1) := by decide +kernel
theorem dX4_happens_42 : decode cX4_happens 42 = .ok (.iload_n 1, 1) := by decide +kernel
theorem dX4_happens_43 : decode cX4_happens 43 = .ok (.iconst 3, 1) := by decide +kernel
theorem dX4_happens_44 : decode cX4_happens 44 = .ok (.iconst 1, 1) := by decide +kernel
theorem dX4_happens_45 : decode cX4_happens 45 = .ok (.invokevirtual 28, 3) := by decide +kernel
theorem dX4_happens_48 : decode cX4_happens 48 = .ok (.aload_n 0, 1) := by decide +kernel
theorem dX4_happens_49 : decode cX4_happens 49 = .ok (.iload_n 1, 1) := by decide +kernel
theorem dX4_happens_50 : decode cX4_happens 50 = .ok (.iconst 0, 1) := by decide +kernel
theorem dX4_happens_51 : decode cX4_happens 51 = .ok (.iload 4, 2) := by decide +kernel
theorem dX4_happens_53 : decode cX4_happens 53 = .ok (.invokevirtual 28, 3) := by decide +kernel
theorem dX4_happens_56 : decode cX4_happens 56 = .ok (.iload_n 2, 1) := by decide +kernel
theorem dX4_happens_57 : decode cX4_happens 57 = .ok (.iconst 2, 1) := by decide +kernel
theorem dX4_happens_58 : decode cX4_happens 58 = .ok (.if_icmp .ne 13, 3) := by decide +kernel
theorem dX4_happens_61 : decode cX4_happens 61 = .ok (.aload_n 0, 1) := by decide +kernel
theorem dX4_happens_62 : decode cX4_happens 62 = .ok (.iload_n 1, 1) := by decide +kernel
theorem dX4_happens_63 : decode cX4_happens 63 = .ok (.iconst 3, 1) := by decide +kernel
theorem dX4_happens_64 : decode cX4_happens 64 = .ok (.iconst 0, 1) := by decide +kernel
theorem dX4_happens_65 : decode cX4_happens 65 = .ok (.invokevirtual 28, 3) := by decide +kernel
theorem dX4_happens_68 : decode cX4_happens 68 = .ok (.goto 24, 3) := by decide +kernel
theorem dX4_happens_71 : decode cX4_happens 71 = .ok (.aload_n 0, 1) := by decide +kernel
theorem dX4_happens_72 : decode cX4_happens 72 = .ok (.iload_n 1, 1) := by decide +kernel
theorem dX4_happens_73 : decode cX4_happens 73 = .ok (.iconst 2, 1) := by decide +kernel
theorem dX4_happens_74 : decode cX4_happens 74 = .ok (.iload 4, 2) := by decide +kernel
theorem dX4_happens_76 : decode cX4_happens 76 = .ok (.iload_n 3, 1) := by decide +kernel
theorem dX4_happens_77 : decode cX4_happens 77 = .ok (.iconst 1, 1) := by decide +kernel
theorem dX4_happens_78 : decode cX4_happens 78 = .ok (.iadd, 1) := by decide +kernel
theorem dX4_happens_79 : decode cX4_happens 79 = .ok (.iconst 4, 1) := by decide +kernel
theorem dX4_happens_80 : decode cX4_happens 80 = .ok (.irem, 1) := by decide +kernel
theorem dX4_happens_81 : decode cX4_happens 81 = .ok (.if_icmp .ne 7, 3) := by decide +kernel
theorem dX4_happens_84 : decode cX4_happens 84 = .ok (.iconst 1, 1) := by decide +kernel
theorem dX4_happens_85 : decode cX4_happens 85 = .ok (.goto 4, 3) := by decide +kernel
theorem dX4_happens_88 : decode cX4_happens 88 = .ok (.iconst (-1), 1) := by decide +kernel
theorem dX4_happens_89 : decode cX4_happens 89 = .ok (.invokevirtual 50, 3) := by decide +kernel
theorem dX4_happens_92 : decode cX4_happens 92 = .ok (.iload 4, 2) := by decide +kernel
theorem dX4_happens_94 : decode cX4_happens 94 = .ok (.ifCond .eq 5, 3) := by decide +kernel
theorem dX4_happens_97 : decode cX4_happens 97 = .ok (.iconst 0, 1) := by decide +kernel
theorem dX4_happens_98 : decode cX4_happens 98 = .ok (.ireturn, 1) := by decide +kernel
theorem dX4_happens_99 : decode cX4_happens 99 = .ok (.aload_n 0, 1) := by decide +kernel
theorem dX4_happens_100 : decode cX4_happens 100 = .ok (.iload_n 1, 1) := by decide +kernel
theorem dX4_happens_101 : decode cX4_happens 101 = .ok (.iconst 2, 1) := by decide +kernel
theorem dX4_happens_102 : decode cX4_happens 102 = .ok (.invokevirtual 42, 3) := by decide +kernel
theorem dX4_happens_105 : decode cX4_happens 105 = .ok (.istore 5, 2) := by decide +kernel
theorem dX4_happens_107 : decode cX4_happens 107 = .ok (.aload_n 0, 1) := by decide +kernel
theorem dX4_happens_108 : decode cX4_happens 108 = .ok (.iload_n 1, 1) := by decide +kernel
theorem dX4_happens_109 : decode cX4_happens 109 = .ok (.aload_n 0, 1) := by decide +kernel
theorem dX4_happens_110 : decode cX4_happens 110 = .ok (.iload_n 1, 1) := by decide +kernel
theorem dX4_happens_111 : decode cX4_happens 111 = .ok (.iconst 3, 1) := by decide +kernel
theorem dX4_happens_112 : decode cX4_happens 112 = .ok (.invokevirtual 42, 3) := by decide +kernel
theorem dX4_happens_115 : decode cX4_happens 115 = .ok (.ifCond .ne 8, 3) := by decide +kernel
theorem dX4_happens_118 : decode cX4_happens 118 = .ok (.bipush 7, 2) := by decide +kernel
theorem dX4_happens_120 : decode cX4_happens 120 = .ok (.goto 26, 3) := by decide +kernel
theorem dX4_happens_123 : decode cX4_happens 123 = .ok (.iload 5, 2) := by decide +kernel
theorem dX4_happens_125 : decode cX4_happens 125 = .ok (.iconst 4, 1) := by decide +kernel
theorem dX4_happens_126 : decode cX4_happens 126 = .ok (.if_icmp .ne 7, 3) := by decide +kernel
theorem dX4_happens_129 : decode cX4_happens 129 = .ok (.iconst 4, 1) := by decide +kernel
theorem dX4_happens_130 : decode cX4_happens 130 = .ok (.goto 16, 3) := by decide +kernel
theorem dX4_happens_133 : decode cX4_happens 133 = .ok (.iload 5, 2) := by decide +kernel
theorem dX4_happens_135 : decode cX4_happens 135 = .ok (.bipush (-4), 2) := by decide +kernel
theorem dX4_happens_137 : decode cX4_happens 137 = .ok (.if_icmp .ne 7, 3) := by decide +kernel
theorem dX4_happens_140 : decode cX4_happens 140 = .ok (.iconst 5, 1) := by decide +kernel
theorem dX4_happens_141 : decode cX4_happens 141 = .ok (.goto 5, 3) := by decide +kernel
theorem dX4_happens_144 : decode cX4_happens 144 = .ok (.bipush 6, 2) := by decide +kernel
theorem dX4_happens_146 : decode cX4_happens 146 = .ok (.invokevirtual 69, 3) := by decide +kernel
theorem dX4_happens_149 : decode cX4_happens 149 = .ok (.iconst 1, 1) := by decide +kernel
theorem dX4_happens_150 : decode cX4_happens 150 = .ok (.ireturn, 1) := by decide +kernel
set_option maxRecDepth 20000 in
theorem ggX4_blocked_X4_isBlocked : GoodIn wsX4_blocked wsX4_isBlocked := goodIn_r _ [5, 6, 7, 8, 9, 4, 10, 11, 12, 13, 14, 15, 16, 17, 18, 19, 20, 21, 22, 23, 24] (by decide +kernel) (by decide +kernel)
set_option maxRecDepth 20000 in
theorem gX4_blocked_X4_isBlocked : GoodIn wsX4_blocked (wsV RX4 59 RX4 yX4_isBlocked wsX4_isBlocked) := goodIn_app (goodIn_of _ (by decide +kernel)) ggX4_blocked_X4_isBlocked
theorem dX4_blocked_0 : decode cX4_blocked 0 = .ok (.iconst 0, 1) := by decide +kernel
theorem dX4_blocked_1 : decode cX4_blocked 1 = .ok (.istore_n 1, 1) := by decide +kernel
theorem dX4_blocked_2 : decode cX4_blocked 2 = .ok (.iconst 0, 1) := by decide +kernel
theorem dX4_blocked_3 : decode cX4_blocked 3 = .ok (.istore_n 2, 1) := by decide +kernel
theorem dX4_blocked_4 : decode cX4_blocked 4 = .ok (.iload_n 2, 1) := by decide +kernel
theorem dX4_blocked_5 : decode cX4_blocked 5 = .ok (.bipush 6, 2) := by decide +kernel
theorem dX4_blocked_7 : decode cX4_blocked 7 = .ok (.if_icmp .ge 27, 3) := by decide +kernel
theorem dX4_blocked_10 : decode cX4_blocked 10 = .ok (.iload_n 1, 1) := by decide +kernel
theorem dX4_blocked_11 : decode cX4_blocked 11 = .ok (.aload_n 0, 1) := by decide +kernel
theorem dX4_blocked_12 : decode cX4_blocked 12 = .ok (.iload_n 2, 1) := by decide +kernel
theorem dX4_blocked_13 : decode cX4_blocked 13 = .ok (.invokevirtual 59, 3) := by decide +kernel
theorem dX4_blocked_16 : decode cX4_blocked 16 = .ok (.ifCond .eq 9, 3) := by decide +kernel
theorem dX4_blocked_19 : decode cX4_blocked 19 = .ok (.iconst 1, 1) := by decide +kernel
theorem dX4_blocked_20 : decode cX4_blocked 20 = .ok (.iload_n 2, 1) := by decide +kernel
theorem dX4_blocked_21 : decode cX4_blocked 21 = .ok (.ishl, 1) := by decide +kernel
theorem dX4_blocked_22 : decode cX4_blocked 22 = .ok (.goto 4, 3) := by decide +kernel
theorem dX4_blocked_25 : decode cX4_blocked 25 = .ok (.iconst 0, 1) := by decide +kernel
theorem dX4_blocked_26 : decode cX4_blocked 26 = .ok (.ior, 1) := by decide +kernel
theorem dX4_blocked_27 : decode cX4_blocked 27 = .ok (.istore_n 1, 1) := by decide +kernel
theorem dX4_blocked_28 : decode cX4_blocked 28 = .ok (.iinc 2 1, 3) := by decide +kernel
theorem dX4_blocked_31 : decode cX4_blocked 31 = .ok (.goto (-27), 3) := by decide +kernel
theorem dX4_blocked_34 : decode cX4_blocked 34 = .ok (.iload_n 1, 1) := by decide +kernel
theorem dX4_blocked_35 : decode cX4_blocked 35 = .ok (.ireturn, 1) := by decide +kernel
set_option maxRecDepth 20000 in
theorem ggX4_allOf_X4_get : GoodIn wsX4_allOf wsX4_get := goodIn_r _ [5, 6, 7, 8, 9, 10, 11, 12, 13, 14, 15, 16] (by decide +kernel) (by decide +kernel)
set_option maxRecDepth 20000 in
theorem gX4_allOf_X4_get : GoodIn wsX4_allOf (wsV RX4 42 RX4 yX4_get wsX4_get) := goodIn_app (goodIn_of _ (by decide +kernel)) ggX4_allOf_X4_get
theorem dX4_allOf_0 : decode cX4_allOf 0 = .ok (.iconst 0, 1) := by decide +kernel
theorem dX4_allOf_1 : decode cX4_allOf 1 = .ok (.istore_n 2, 1) := by decide +kernel
theorem dX4_allOf_2 : decode cX4_allOf 2 = .ok (.iconst 0, 1) := by decide +kernel
theorem dX4_allOf_3 : decode cX4_allOf 3 = .ok (.istore_n 3, 1) := by decide +kernel
theorem dX4_allOf_4 : decode cX4_allOf 4 = .ok (.iload_n 3, 1) := by decide +kernel
theorem dX4_allOf_5 : decode cX4_allOf 5 = .ok (.bipush 6, 2) := by decide +kernel
theorem dX4_allOf_7 : decode cX4_allOf 7 = .ok (.if_icmp .ge 18, 3) := by decide +kernel
theorem dX4_allOf_10 : decode cX4_allOf 10 = .ok (.iload_n 2, 1) := by decide +kernel
theorem dX4_allOf_11 : decode cX4_allOf 11 = .ok (.aload_n 0, 1) := by decide +kernel
theorem dX4_allOf_12 : decode cX4_allOf 12 = .ok (.iload_n 3, 1) := by decide +kernel
theorem dX4_allOf_13 : decode cX4_allOf 13 = .ok (.iload_n 1, 1) := by decide +kernel
theorem dX4_allOf_14 : decode cX4_allOf 14 = .ok (.invokevirtual 42, 3) := by decide +kernel
theorem dX4_allOf_17 : decode cX4_allOf 17 = .ok (.iadd, 1) := by decide +kernel
theorem dX4_allOf_18 : decode cX4_allOf 18 = .ok (.istore_n 2, 1) := by decide +kernel
theorem dX4_allOf_19 : decode cX4_allOf 19 = .ok (.iinc 3 1, 3) := by decide +kernel
theorem dX4_allOf_22 : decode cX4_allOf 22 = .ok (.goto (-18), 3) := by decide +kernel
theorem dX4_allOf_25 : decode cX4_allOf 25 = .ok (.iload_n 2, 1) := by decide +kernel
theorem dX4_allOf_26 : decode cX4_allOf 26 = .ok (.ireturn, 1) := by decide +kernel
set_option maxRecDepth 20000 in
theorem ggX4_isSetting_X4_in : GoodIn wsX4_isSetting wsX4_in := goodIn_r _ [7] (by decide +kernel) (by decide +kernel)
set_option maxRecDepth 20000 in
theorem gX4_isSetting_X4_in : GoodIn wsX4_isSetting (va_wsS RX4 38 yX4_in wsX4_in) := goodIn_app (goodIn_of _ (by decide +kernel)) ggX4_isSetting_X4_in
theorem dX4_isSetting_0 : decode cX4_isSetting 0 = .ok (.iload_n 0, 1) := by decide +kernel
theorem dX4_isSetting_1 : decode cX4_isSetting 1 = .ok (.tableswitch 57 0 2 #[27, 37, 47], 27) := by decide +kernel
theorem dX4_isSetting_28 : decode cX4_isSetting 28 = .ok (.iload_n 1, 1) := by decide +kernel
theorem dX4_isSetting_29 : decode cX4_isSetting 29 = .ok (.i2l, 1) := by decide +kernel
theorem dX4_isSetting_30 : decode cX4_isSetting 30 = .ok (.lconst 1, 1) := by decide +kernel
theorem dX4_isSetting_31 : decode cX4_isSetting 31 = .ok (.ldc2_w 72, 3) := by decide +kernel
theorem dX4_isSetting_34 : decode cX4_isSetting 34 = .ok (.invokestatic 38, 3) := by decide +kernel
theorem dX4_isSetting_37 : decode cX4_isSetting 37 = .ok (.ireturn, 1) := by decide +kernel
theorem dX4_isSetting_38 : decode cX4_isSetting 38 = .ok (.iload_n 1, 1) := by decide +kernel
theorem dX4_isSetting_39 : decode cX4_isSetting 39 = .ok (.i2l, 1) := by decide +kernel
theorem dX4_isSetting_40 : decode cX4_isSetting 40 = .ok (.lconst 0, 1) := by decide +kernel
theorem dX4_isSetting_41 : decode cX4_isSetting 41 = .ok (.ldc2_w 74, 3) := by decide +kernel
theorem dX4_isSetting_44 : decode cX4_isSetting 44 = .ok (.invokestatic 38, 3) := by decide +kernel
theorem dX4_isSetting_47 : decode cX4_isSetting 47 = .ok (.ireturn, 1) := by decide +kernel
theorem dX4_isSetting_48 : decode cX4_isSetting 48 = .ok (.iload_n 1, 1) := by decide +kernel
theorem dX4_isSetting_49 : decode cX4_isSetting 49 = .ok (.i2l, 1) := by decide +kernel
theorem dX4_isSetting_50 : decode cX4_isSetting 50 = .ok (.lconst 1, 1) := by decide +kernel
theorem dX4_isSetting_51 : decode cX4_isSetting 51 = .ok (.ldc2_w 76, 3) := by decide +kernel
theorem dX4_isSetting_54 : decode cX4_isSetting 54 = .ok (.invokestatic 38, 3) := by decide +kernel
theorem dX4_isSetting_57 : decode cX4_isSetting 57 = .ok (.ireturn, 1) := by decide +kernel
theorem dX4_isSetting_58 : decode cX4_isSetting 58 = .ok (.iconst 0, 1) := by decide +kernel
theorem dX4_isSetting_59 : decode cX4_isSetting 59 = .ok (.ireturn, 1) := by decide +kernel
set_option maxRecDepth 20000 in
theorem ggX4_set_X4_isSetting : GoodIn wsX4_set wsX4_isSetting := goodIn_r _ [5, 6, 7, 8, 9, 10, 4, 11] (by decide +kernel) (by decide +kernel)
set_option maxRecDepth 20000 in
theorem gX4_set_X4_isSetting : GoodIn wsX4_set (va_wsS RX4 78 yX4_isSetting wsX4_isSetting) := goodIn_app (goodIn_of _ (by decide +kernel)) ggX4_set_X4_isSetting
set_option maxRecDepth 20000 in
theorem ggX4_set_X4_changes : GoodIn wsX4_set wsX4_changes := goodIn_r _ [15, 16, 17, 1, 18, 19, 20, 21, 22, 23, 24, 25, 26, 27] (by decide +kernel) (by decide +kernel)
set_option maxRecDepth 20000 in
theorem gX4_set_X4_changes : GoodIn wsX4_set (wsV RX4 82 RX4 yX4_changes wsX4_changes) := goodIn_app (goodIn_of _ (by decide +kernel)) ggX4_set_X4_changes
theorem dX4_set_0 : decode cX4_set 0 = .ok (.iload_n 1, 1) := by decide +kernel
theorem dX4_set_1 : decode cX4_set 1 = .ok (.iload_n 2, 1) := by decide +kernel
theorem dX4_set_2 : decode cX4_set 2 = .ok (.invokestatic 78, 3) := by decide +kernel
theorem dX4_set_5 : decode cX4_set 5 = .ok (.ifCond .ne 6, 3) := by decide +kernel
theorem dX4_set_8 : decode cX4_set 8 = .ok (.bipush (-2), 2) := by decide +kernel
theorem dX4_set_10 : decode cX4_set 10 = .ok (.ireturn, 1) := by decide +kernel
theorem dX4_set_11 : decode cX4_set 11 = .ok (.aload_n 0, 1) := by decide +kernel
theorem dX4_set_12 : decode cX4_set 12 = .ok (.invokevirtual 82, 3) := by decide +kernel
theorem dX4_set_15 : decode cX4_set 15 = .ok (.aload_n 0, 1) := by decide +kernel
theorem dX4_set_16 : decode cX4_set 16 = .ok (.getfield 7, 3) := by decide +kernel
theorem dX4_set_19 : decode cX4_set 19 = .ok (.iload_n 1, 1) := by decide +kernel
theorem dX4_set_20 : decode cX4_set 20 = .ok (.iaload, 1) := by decide +kernel
theorem dX4_set_21 : decode cX4_set 21 = .ok (.istore_n 3, 1) := by decide +kernel
theorem dX4_set_22 : decode cX4_set 22 = .ok (.aload_n 0, 1) := by decide +kernel
theorem dX4_set_23 : decode cX4_set 23 = .ok (.getfield 7, 3) := by decide +kernel
theorem dX4_set_26 : decode cX4_set 26 = .ok (.iload_n 1, 1) := by decide +kernel
theorem dX4_set_27 : decode cX4_set 27 = .ok (.iload_n 2, 1) := by decide +kernel
theorem dX4_set_28 : decode cX4_set 28 = .ok (.iastore, 1) := by decide +kernel
theorem dX4_set_29 : decode cX4_set 29 = .ok (.iload_n 3, 1) := by decide +kernel
theorem dX4_set_30 : decode cX4_set 30 = .ok (.ireturn, 1) := by decide +kernel
set_option maxRecDepth 20000 in
theorem ggX4_event_X4_isGate : GoodIn wsX4_event wsX4_isGate := goodIn_r _ [5, 6, 7, 8, 4, 9] (by decide +kernel) (by decide +kernel)
set_option maxRecDepth 20000 in
theorem gX4_event_X4_isGate : GoodIn wsX4_event (va_wsS RX4 85 yX4_isGate wsX4_isGate) := goodIn_app (goodIn_of _ (by decide +kernel)) ggX4_event_X4_isGate
set_option maxRecDepth 20000 in
theorem ggX4_event_X4_in : GoodIn wsX4_event wsX4_in := goodIn_r _ [9] (by decide +kernel) (by decide +kernel)
set_option maxRecDepth 20000 in
theorem gX4_event_X4_in : GoodIn wsX4_event (va_wsS RX4 38 yX4_in wsX4_in) := goodIn_app (goodIn_of _ (by decide +kernel)) ggX4_event_X4_in
set_option maxRecDepth 20000 in
theorem ggX4_event_X4_changes : GoodIn wsX4_event wsX4_changes := goodIn_r _ [13, 14, 15, 16, 60, 61, 62, 63, 64, 65, 66, 67, 68, 69] (by decide +kernel) (by decide +kernel)
set_option maxRecDepth 20000 in
theorem gX4_event_X4_changes : GoodIn wsX4_event (wsV RX4 82 RX4 yX4_changes wsX4_changes) := goodIn_app (goodIn_of _ (by decide +kernel)) ggX4_event_X4_changes
set_option maxRecDepth 20000 in
theorem ggX4_event_X4_happens : GoodIn wsX4_event wsX4_happens := goodIn_r _ [20, 16, 21, 22, 23, 4, 24, 25, 26, 27, 28, 29, 30, 31, 32, 33, 34, 35, 36, 37, 38, 39, 40, 41, 42, 43, 44, 45, 46, 47, 48, 49, 50, 51, 52, 53, 54, 55, 56, 57, 58, 59, 60, 61, 62, 63, 64, 65, 66, 67, 68, 69] (by decide +kernel) (by decide +kernel)
set_option maxRecDepth 20000 in
theorem gX4_event_X4_happens : GoodIn wsX4_event (wsV RX4 90 RX4 yX4_happens wsX4_happens) := goodIn_app (goodIn_of _ (by decide +kernel)) ggX4_event_X4_happens
set_option maxRecDepth 20000 in
theorem ggX4_event_X4_get : GoodIn wsX4_event wsX4_get := goodIn_r _ [24, 16, 60, 61, 62, 63, 64, 65, 66, 67, 68, 69] (by decide +kernel) (by decide +kernel)
set_option maxRecDepth 20000 in
theorem gX4_event_X4_get : GoodIn wsX4_event (wsV RX4 42 RX4 yX4_get wsX4_get) := goodIn_app (goodIn_of _ (by decide +kernel)) ggX4_event_X4_get
theorem dX4_event_0 : decode cX4_event 0 = .ok (.iload_n 1, 1) := by decide +kernel
theorem dX4_event_1 : decode cX4_event 1 = .ok (.invokestatic 85, 3) := by decide +kernel
theorem dX4_event_4 : decode cX4_event 4 = .ok (.ifCond .ne 5, 3) := by decide +kernel
theorem dX4_event_7 : decode cX4_event 7 = .ok (.iconst (-1), 1) := by decide +kernel
theorem dX4_event_8 : decode cX4_event 8 = .ok (.ireturn, 1) := by decide +kernel
theorem dX4_event_9 : decode cX4_event 9 = .ok (.iload_n 2, 1) := by decide +kernel
theorem dX4_event_10 : decode cX4_event 10 = .ok (.i2l, 1) := by decide +kernel
theorem dX4_event_11 : decode cX4_event 11 = .ok (.lconst 0, 1) := by decide +kernel
theorem dX4_event_12 : decode cX4_event 12 = .ok (.ldc2_w 88, 3) := by decide +kernel
theorem dX4_event_15 : decode cX4_event 15 = .ok (.invokestatic 38, 3) := by decide +kernel
theorem dX4_event_18 : decode cX4_event 18 = .ok (.ifCond .ne 6, 3) := by decide +kernel
theorem dX4_event_21 : decode cX4_event 21 = .ok (.bipush (-2), 2) := by decide +kernel
theorem dX4_event_23 : decode cX4_event 23 = .ok (.ireturn, 1) := by decide +kernel
theorem dX4_event_24 : decode cX4_event 24 = .ok (.aload_n 0, 1) := by decide +kernel
theorem dX4_event_25 : decode cX4_event 25 = .ok (.invokevirtual 82, 3) := by decide +kernel
theorem dX4_event_28 : decode cX4_event 28 = .ok (.aload_n 0, 1) := by decide +kernel
theorem dX4_event_29 : decode cX4_event 29 = .ok (.iload_n 1, 1) := by decide +kernel
theorem dX4_event_30 : decode cX4_event 30 = .ok (.iload_n 2, 1) := by decide +kernel
theorem dX4_event_31 : decode cX4_event 31 = .ok (.invokevirtual 90, 3) := by decide +kernel
theorem dX4_event_34 : decode cX4_event 34 = .ok (.istore_n 3, 1) := by decide +kernel
theorem dX4_event_35 : decode cX4_event 35 = .ok (.aload_n 0, 1) := by decide +kernel
theorem dX4_event_36 : decode cX4_event 36 = .ok (.iload_n 1, 1) := by decide +kernel
theorem dX4_event_37 : decode cX4_event 37 = .ok (.iconst 0, 1) := by decide +kernel
theorem dX4_event_38 : decode cX4_event 38 = .ok (.invokevirtual 42, 3) := by decide +kernel
theorem dX4_event_41 : decode cX4_event 41 = .ok (.ireturn, 1) := by decide +kernel
theorem dX4_bits_0 : decode cX4_bits 0 = .ok (.iconst 0, 1) := by decide +kernel
theorem dX4_bits_1 : decode cX4_bits 1 = .ok (.istore_n 1, 1) := by decide +kernel
theorem dX4_bits_2 : decode cX4_bits 2 = .ok (.iconst 0, 1) := by decide +kernel
theorem dX4_bits_3 : decode cX4_bits 3 = .ok (.istore_n 2, 1) := by decide +kernel
theorem dX4_bits_4 : decode cX4_bits 4 = .ok (.iload_n 2, 1) := by decide +kernel
theorem dX4_bits_5 : decode cX4_bits 5 = .ok (.bipush 6, 2) := by decide +kernel
theorem dX4_bits_7 : decode cX4_bits 7 = .ok (.if_icmp .ge 17, 3) := by decide +kernel
theorem dX4_bits_10 : decode cX4_bits 10 = .ok (.iload_n 1, 1) := by decide +kernel
theorem dX4_bits_11 : decode cX4_bits 11 = .ok (.iload_n 0, 1) := by decide +kernel
theorem dX4_bits_12 : decode cX4_bits 12 = .ok (.iload_n 2, 1) := by decide +kernel
theorem dX4_bits_13 : decode cX4_bits 13 = .ok (.ishr, 1) := by decide +kernel
theorem dX4_bits_14 : decode cX4_bits 14 = .ok (.iconst 1, 1) := by decide +kernel
theorem dX4_bits_15 : decode cX4_bits 15 = .ok (.iand, 1) := by decide +kernel
theorem dX4_bits_16 : decode cX4_bits 16 = .ok (.iadd, 1) := by decide +kernel
theorem dX4_bits_17 : decode cX4_bits 17 = .ok (.istore_n 1, 1) := by decide +kernel
theorem dX4_bits_18 : decode cX4_bits 18 = .ok (.iinc 2 1, 3) := by decide +kernel
theorem dX4_bits_21 : decode cX4_bits 21 = .ok (.goto (-17), 3) := by decide +kernel
theorem dX4_bits_24 : decode cX4_bits 24 = .ok (.iload_n 1, 1) := by decide +kernel
theorem dX4_bits_25 : decode cX4_bits 25 = .ok (.ireturn, 1) := by decide +kernel
set_option maxRecDepth 20000 in
theorem ggX4_pass_X4_in : GoodIn wsX4_pass wsX4_in := goodIn_r _ [7] (by decide +kernel) (by decide +kernel)
set_option maxRecDepth 20000 in
theorem gX4_pass_X4_in : GoodIn wsX4_pass (va_wsS RX4 38 yX4_in wsX4_in) := goodIn_app (goodIn_of _ (by decide +kernel)) ggX4_pass_X4_in
set_option maxRecDepth 20000 in
theorem ggX4_pass_X4_changes : GoodIn wsX4_pass wsX4_changes := goodIn_r _ [11, 12, 13, 2, 33, 34, 35, 36, 37, 38, 39, 40, 41, 42] (by decide +kernel) (by decide +kernel)
set_option maxRecDepth 20000 in
theorem gX4_pass_X4_changes : GoodIn wsX4_pass (wsV RX4 82 RX4 yX4_changes wsX4_changes) := goodIn_app (goodIn_of _ (by decide +kernel)) ggX4_pass_X4_changes
set_option maxRecDepth 20000 in
theorem ggX4_pass_X4_blocked : GoodIn wsX4_pass wsX4_blocked := goodIn_r _ [17, 18, 19, 20, 6, 21, 2, 22, 23, 24, 25, 26, 27, 28, 29, 33, 34, 35, 36, 37, 38, 39, 40, 41, 42] (by decide +kernel) (by decide +kernel)
set_option maxRecDepth 20000 in
theorem gX4_pass_X4_blocked : GoodIn wsX4_pass (wsV RX4 96 RX4 yX4_blocked wsX4_blocked) := goodIn_app (goodIn_of _ (by decide +kernel)) ggX4_pass_X4_blocked
set_option maxRecDepth 20000 in
theorem ggX4_pass_X4_bits : GoodIn wsX4_pass wsX4_bits := goodIn_r _ [32] (by decide +kernel) (by decide +kernel)
set_option maxRecDepth 20000 in
theorem gX4_pass_X4_bits : GoodIn wsX4_pass (va_wsS RX4 100 yX4_bits wsX4_bits) := goodIn_app (goodIn_of _ (by decide +kernel)) ggX4_pass_X4_bits
theorem dX4_pass_0 : decode cX4_pass 0 = .ok (.iload_n 1, 1) := by decide +kernel
theorem dX4_pass_1 : decode cX4_pass 1 = .ok (.i2l, 1) := by decide +kernel
theorem dX4_pass_2 : decode cX4_pass 2 = .ok (.lconst 1, 1) := by decide +kernel
theorem dX4_pass_3 : decode cX4_pass 3 = .ok (.ldc2_w 93, 3) := by decide +kernel
theorem dX4_pass_6 : decode cX4_pass 6 = .ok (.invokestatic 38, 3) := by decide +kernel
theorem dX4_pass_9 : decode cX4_pass 9 = .ok (.ifCond .ne 6, 3) := by decide +kernel
theorem dX4_pass_12 : decode cX4_pass 12 = .ok (.bipush (-2), 2) := by decide +kernel
theorem dX4_pass_14 : decode cX4_pass 14 = .ok (.ireturn, 1) := by decide +kernel
theorem dX4_pass_15 : decode cX4_pass 15 = .ok (.aload_n 0, 1) := by decide +kernel
theorem dX4_pass_16 : decode cX4_pass 16 = .ok (.getfield 7, 3) := by decide +kernel
theorem dX4_pass_19 : decode cX4_pass 19 = .ok (.iconst 3, 1) := by decide +kernel
theorem dX4_pass_20 : decode cX4_pass 20 = .ok (.iaload, 1) := by decide +kernel
theorem dX4_pass_21 : decode cX4_pass 21 = .ok (.iload_n 1, 1) := by decide +kernel
theorem dX4_pass_22 : decode cX4_pass 22 = .ok (.iadd, 1) := by decide +kernel
theorem dX4_pass_23 : decode cX4_pass 23 = .ok (.ldc 95, 2) := by decide +kernel
theorem dX4_pass_25 : decode cX4_pass 25 = .ok (.if_icmp .le 6, 3) := by decide +kernel
theorem dX4_pass_28 : decode cX4_pass 28 = .ok (.bipush (-4), 2) := by decide +kernel
theorem dX4_pass_30 : decode cX4_pass 30 = .ok (.ireturn, 1) := by decide +kernel
theorem dX4_pass_31 : decode cX4_pass 31 = .ok (.aload_n 0, 1) := by decide +kernel
theorem dX4_pass_32 : decode cX4_pass 32 = .ok (.invokevirtual 82, 3) := by decide +kernel
theorem dX4_pass_35 : decode cX4_pass 35 = .ok (.aload_n 0, 1) := by decide +kernel
theorem dX4_pass_36 : decode cX4_pass 36 = .ok (.getfield 7, 3) := by decide +kernel
theorem dX4_pass_39 : decode cX4_pass 39 = .ok (.iconst 3, 1) := by decide +kernel
theorem dX4_pass_40 : decode cX4_pass 40 = .ok (.dup2, 1) := by decide +kernel
theorem dX4_pass_41 : decode cX4_pass 41 = .ok (.iaload, 1) := by decide +kernel
theorem dX4_pass_42 : decode cX4_pass 42 = .ok (.iload_n 1, 1) := by decide +kernel
theorem dX4_pass_43 : decode cX4_pass 43 = .ok (.iadd, 1) := by decide +kernel
theorem dX4_pass_44 : decode cX4_pass 44 = .ok (.iastore, 1) := by decide +kernel
theorem dX4_pass_45 : decode cX4_pass 45 = .ok (.aload_n 0, 1) := by decide +kernel
theorem dX4_pass_46 : decode cX4_pass 46 = .ok (.invokevirtual 96, 3) := by decide +kernel
theorem dX4_pass_49 : decode cX4_pass 49 = .ok (.invokestatic 100, 3) := by decide +kernel
theorem dX4_pass_52 : decode cX4_pass 52 = .ok (.ireturn, 1) := by decide +kernel
set_option maxRecDepth 20000 in
theorem ggX4_correct_X4_in : GoodIn wsX4_correct wsX4_in := goodIn_r _ [6] (by decide +kernel) (by decide +kernel)
set_option maxRecDepth 20000 in
theorem gX4_correct_X4_in : GoodIn wsX4_correct (va_wsS RX4 38 yX4_in wsX4_in) := goodIn_app (goodIn_of _ (by decide +kernel)) ggX4_correct_X4_in
set_option maxRecDepth 20000 in
theorem ggX4_correct_X4_changes : GoodIn wsX4_correct wsX4_changes := goodIn_r _ [10, 11, 12, 2, 13, 14, 15, 16, 17, 18, 19, 20, 21, 22] (by decide +kernel) (by decide +kernel)
set_option maxRecDepth 20000 in
theorem gX4_correct_X4_changes : GoodIn wsX4_correct (wsV RX4 82 RX4 yX4_changes wsX4_changes) := goodIn_app (goodIn_of _ (by decide +kernel)) ggX4_correct_X4_changes
theorem dX4_correct_0 : decode cX4_correct 0 = .ok (.iload_n 1, 1) := by decide +kernel
theorem dX4_correct_1 : decode cX4_correct 1 = .ok (.i2l, 1) := by decide +kernel
theorem dX4_correct_2 : decode cX4_correct 2 = .ok (.lconst 0, 1) := by decide +kernel
theorem dX4_correct_3 : decode cX4_correct 3 = .ok (.ldc2_w 93, 3) := by decide +kernel
theorem dX4_correct_6 : decode cX4_correct 6 = .ok (.invokestatic 38, 3) := by decide +kernel
theorem dX4_correct_9 : decode cX4_correct 9 = .ok (.ifCond .ne 6, 3) := by decide +kernel
theorem dX4_correct_12 : decode cX4_correct 12 = .ok (.bipush (-2), 2) := by decide +kernel
theorem dX4_correct_14 : decode cX4_correct 14 = .ok (.ireturn, 1) := by decide +kernel
theorem dX4_correct_15 : decode cX4_correct 15 = .ok (.aload_n 0, 1) := by decide +kernel
theorem dX4_correct_16 : decode cX4_correct 16 = .ok (.invokevirtual 82, 3) := by decide +kernel
theorem dX4_correct_19 : decode cX4_correct 19 = .ok (.aload_n 0, 1) := by decide +kernel
theorem dX4_correct_20 : decode cX4_correct 20 = .ok (.getfield 7, 3) := by decide +kernel
theorem dX4_correct_23 : decode cX4_correct 23 = .ok (.iconst 4, 1) := by decide +kernel
theorem dX4_correct_24 : decode cX4_correct 24 = .ok (.iaload, 1) := by decide +kernel
theorem dX4_correct_25 : decode cX4_correct 25 = .ok (.istore_n 2, 1) := by decide +kernel
theorem dX4_correct_26 : decode cX4_correct 26 = .ok (.aload_n 0, 1) := by decide +kernel
theorem dX4_correct_27 : decode cX4_correct 27 = .ok (.getfield 7, 3) := by decide +kernel
theorem dX4_correct_30 : decode cX4_correct 30 = .ok (.iconst 4, 1) := by decide +kernel
theorem dX4_correct_31 : decode cX4_correct 31 = .ok (.iload_n 1, 1) := by decide +kernel
theorem dX4_correct_32 : decode cX4_correct 32 = .ok (.iastore, 1) := by decide +kernel
theorem dX4_correct_33 : decode cX4_correct 33 = .ok (.aload_n 0, 1) := by decide +kernel
theorem dX4_correct_34 : decode cX4_correct 34 = .ok (.getfield 7, 3) := by decide +kernel
theorem dX4_correct_37 : decode cX4_correct 37 = .ok (.iconst 5, 1) := by decide +kernel
theorem dX4_correct_38 : decode cX4_correct 38 = .ok (.iload_n 1, 1) := by decide +kernel
theorem dX4_correct_39 : decode cX4_correct 39 = .ok (.aload_n 0, 1) := by decide +kernel
theorem dX4_correct_40 : decode cX4_correct 40 = .ok (.getfield 7, 3) := by decide +kernel
theorem dX4_correct_43 : decode cX4_correct 43 = .ok (.iconst 5, 1) := by decide +kernel
theorem dX4_correct_44 : decode cX4_correct 44 = .ok (.iaload, 1) := by decide +kernel
theorem dX4_correct_45 : decode cX4_correct 45 = .ok (.if_icmp .le 7, 3) := by decide +kernel
theorem dX4_correct_48 : decode cX4_correct 48 = .ok (.iload_n 1, 1) := by decide +kernel
theorem dX4_correct_49 : decode cX4_correct 49 = .ok (.goto 9, 3) := by decide +kernel
theorem dX4_correct_52 : decode cX4_correct 52 = .ok (.aload_n 0, 1) := by decide +kernel
theorem dX4_correct_53 : decode cX4_correct 53 = .ok (.getfield 7, 3) := by decide +kernel
theorem dX4_correct_56 : decode cX4_correct 56 = .ok (.iconst 5, 1) := by decide +kernel
theorem dX4_correct_57 : decode cX4_correct 57 = .ok (.iaload, 1) := by decide +kernel
theorem dX4_correct_58 : decode cX4_correct 58 = .ok (.iastore, 1) := by decide +kernel
theorem dX4_correct_59 : decode cX4_correct 59 = .ok (.iload_n 2, 1) := by decide +kernel
theorem dX4_correct_60 : decode cX4_correct 60 = .ok (.ireturn, 1) := by decide +kernel
set_option maxRecDepth 20000 in
theorem ggX4_clear_X4_isGate : GoodIn wsX4_clear wsX4_isGate := goodIn_r _ [4, 5, 6, 7, 3, 8] (by decide +kernel) (by decide +kernel)
set_option maxRecDepth 20000 in
theorem gX4_clear_X4_isGate : GoodIn wsX4_clear (va_wsS RX4 85 yX4_isGate wsX4_isGate) := goodIn_app (goodIn_of _ (by decide +kernel)) ggX4_clear_X4_isGate
set_option maxRecDepth 20000 in
theorem ggX4_clear_X4_isUnderWay : GoodIn wsX4_clear wsX4_isUnderWay := goodIn_r _ [12, 13, 14, 15, 3, 16, 17, 52, 53, 54, 55, 56, 57, 58, 59, 60, 61] (by decide +kernel) (by decide +kernel)
set_option maxRecDepth 20000 in
theorem gX4_clear_X4_isUnderWay : GoodIn wsX4_clear (wsV RX4 46 RX4 yX4_isUnderWay wsX4_isUnderWay) := goodIn_app (goodIn_of _ (by decide +kernel)) ggX4_clear_X4_isUnderWay
set_option maxRecDepth 20000 in
theorem ggX4_clear_X4_changes : GoodIn wsX4_clear wsX4_changes := goodIn_r _ [21, 22, 23, 17, 52, 53, 54, 55, 56, 57, 58, 59, 60, 61] (by decide +kernel) (by decide +kernel)
set_option maxRecDepth 20000 in
theorem gX4_clear_X4_changes : GoodIn wsX4_clear (wsV RX4 82 RX4 yX4_changes wsX4_changes) := goodIn_app (goodIn_of _ (by decide +kernel)) ggX4_clear_X4_changes
set_option maxRecDepth 20000 in
theorem ggX4_clear_X4_get : GoodIn wsX4_clear wsX4_get := goodIn_r _ [16, 17, 52, 53, 54, 55, 56, 57, 58, 59, 60, 61] (by decide +kernel) (by decide +kernel)
set_option maxRecDepth 20000 in
theorem gX4_clear_X4_get : GoodIn wsX4_clear (wsV RX4 42 RX4 yX4_get wsX4_get) := goodIn_app (goodIn_of _ (by decide +kernel)) ggX4_clear_X4_get
set_option maxRecDepth 20000 in
theorem ggX4_clear_X4_ends : GoodIn wsX4_clear wsX4_ends := goodIn_r _ [27, 28, 29, 30, 3, 31, 17, 32, 33, 34, 35, 9, 10, 11, 12, 13, 14, 15, 16, 36, 37, 38, 39, 40, 41, 42, 43, 44, 45, 46, 47, 48, 49, 50, 51, 52, 53, 54, 55, 56, 57, 58, 59, 60, 61] (by decide +kernel) (by decide +kernel)
set_option maxRecDepth 20000 in
theorem gX4_clear_X4_ends : GoodIn wsX4_clear (wsV RX4 69 RX4 yX4_ends wsX4_ends) := goodIn_app (goodIn_of _ (by decide +kernel)) ggX4_clear_X4_ends
theorem dX4_clear_0 : decode cX4_clear 0 = .ok (.iload_n 1, 1) := by decide +kernel
theorem dX4_clear_1 : decode cX4_clear 1 = .ok (.invokestatic 85, 3) := by decide +kernel
theorem dX4_clear_4 : decode cX4_clear 4 = .ok (.ifCond .ne 5, 3) := by decide +kernel
theorem dX4_clear_7 : decode cX4_clear 7 = .ok (.iconst (-1), 1) := by decide +kernel
theorem dX4_clear_8 : decode cX4_clear 8 = .ok (.ireturn, 1) := by decide +kernel
theorem dX4_clear_9 : decode cX4_clear 9 = .ok (.aload_n 0, 1) := by decide +kernel
theorem dX4_clear_10 : decode cX4_clear 10 = .ok (.iload_n 1, 1) := by decide +kernel
theorem dX4_clear_11 : decode cX4_clear 11 = .ok (.invokevirtual 46, 3) := by decide +kernel
theorem dX4_clear_14 : decode cX4_clear 14 = .ok (.ifCond .ne 6, 3) := by decide +kernel
theorem dX4_clear_17 : decode cX4_clear 17 = .ok (.bipush (-5), 2) := by decide +kernel
theorem dX4_clear_19 : decode cX4_clear 19 = .ok (.ireturn, 1) := by decide +kernel
theorem dX4_clear_20 : decode cX4_clear 20 = .ok (.aload_n 0, 1) := by decide +kernel
theorem dX4_clear_21 : decode cX4_clear 21 = .ok (.invokevirtual 82, 3) := by decide +kernel
theorem dX4_clear_24 : decode cX4_clear 24 = .ok (.aload_n 0, 1) := by decide +kernel
theorem dX4_clear_25 : decode cX4_clear 25 = .ok (.iload_n 1, 1) := by decide +kernel
theorem dX4_clear_26 : decode cX4_clear 26 = .ok (.iconst 0, 1) := by decide +kernel
theorem dX4_clear_27 : decode cX4_clear 27 = .ok (.invokevirtual 42, 3) := by decide +kernel
theorem dX4_clear_30 : decode cX4_clear 30 = .ok (.istore_n 2, 1) := by decide +kernel
theorem dX4_clear_31 : decode cX4_clear 31 = .ok (.aload_n 0, 1) := by decide +kernel
theorem dX4_clear_32 : decode cX4_clear 32 = .ok (.iload_n 1, 1) := by decide +kernel
theorem dX4_clear_33 : decode cX4_clear 33 = .ok (.bipush 7, 2) := by decide +kernel
theorem dX4_clear_35 : decode cX4_clear 35 = .ok (.invokevirtual 69, 3) := by decide +kernel
theorem dX4_clear_38 : decode cX4_clear 38 = .ok (.iload_n 2, 1) := by decide +kernel
theorem dX4_clear_39 : decode cX4_clear 39 = .ok (.ireturn, 1) := by decide +kernel
set_option maxRecDepth 20000 in
theorem ggX4_placeOf_X4_isUnderWay : GoodIn wsX4_placeOf wsX4_isUnderWay := goodIn_r _ [5, 6, 7, 8, 4, 9, 10, 11, 12, 13, 14, 15, 16, 17, 18, 19, 20] (by decide +kernel) (by decide +kernel)
set_option maxRecDepth 20000 in
theorem gX4_placeOf_X4_isUnderWay : GoodIn wsX4_placeOf (wsV RX4 46 RX4 yX4_isUnderWay wsX4_isUnderWay) := goodIn_app (goodIn_of _ (by decide +kernel)) ggX4_placeOf_X4_isUnderWay
set_option maxRecDepth 20000 in
theorem ggX4_placeOf_X4_get : GoodIn wsX4_placeOf wsX4_get := goodIn_r _ [9, 10, 11, 12, 13, 14, 15, 16, 17, 18, 19, 20] (by decide +kernel) (by decide +kernel)
set_option maxRecDepth 20000 in
theorem gX4_placeOf_X4_get : GoodIn wsX4_placeOf (wsV RX4 42 RX4 yX4_get wsX4_get) := goodIn_app (goodIn_of _ (by decide +kernel)) ggX4_placeOf_X4_get
theorem dX4_placeOf_0 : decode cX4_placeOf 0 = .ok (.aload_n 0, 1) := by decide +kernel
theorem dX4_placeOf_1 : decode cX4_placeOf 1 = .ok (.iload_n 1, 1) := by decide +kernel
theorem dX4_placeOf_2 : decode cX4_placeOf 2 = .ok (.invokevirtual 46, 3) := by decide +kernel
theorem dX4_placeOf_5 : decode cX4_placeOf 5 = .ok (.ifCond .eq 24, 3) := by decide +kernel
theorem dX4_placeOf_8 : decode cX4_placeOf 8 = .ok (.aload_n 0, 1) := by decide +kernel
theorem dX4_placeOf_9 : decode cX4_placeOf 9 = .ok (.iload_n 1, 1) := by decide +kernel
theorem dX4_placeOf_10 : decode cX4_placeOf 10 = .ok (.iconst 3, 1) := by decide +kernel
theorem dX4_placeOf_11 : decode cX4_placeOf 11 = .ok (.invokevirtual 42, 3) := by decide +kernel
theorem dX4_placeOf_14 : decode cX4_placeOf 14 = .ok (.iconst 1, 1) := by decide +kernel
theorem dX4_placeOf_15 : decode cX4_placeOf 15 = .ok (.if_icmp .ne 14, 3) := by decide +kernel
theorem dX4_placeOf_18 : decode cX4_placeOf 18 = .ok (.aload_n 0, 1) := by decide +kernel
theorem dX4_placeOf_19 : decode cX4_placeOf 19 = .ok (.iload_n 1, 1) := by decide +kernel
theorem dX4_placeOf_20 : decode cX4_placeOf 20 = .ok (.iconst 2, 1) := by decide +kernel
theorem dX4_placeOf_21 : decode cX4_placeOf 21 = .ok (.invokevirtual 42, 3) := by decide +kernel
theorem dX4_placeOf_24 : decode cX4_placeOf 24 = .ok (.iconst 4, 1) := by decide +kernel
theorem dX4_placeOf_25 : decode cX4_placeOf 25 = .ok (.iadd, 1) := by decide +kernel
theorem dX4_placeOf_26 : decode cX4_placeOf 26 = .ok (.goto 5, 3) := by decide +kernel
theorem dX4_placeOf_29 : decode cX4_placeOf 29 = .ok (.bipush (-6), 2) := by decide +kernel
theorem dX4_placeOf_31 : decode cX4_placeOf 31 = .ok (.ireturn, 1) := by decide +kernel
set_option maxRecDepth 20000 in
theorem ggX4_gate_X4_isGate : GoodIn wsX4_gate wsX4_isGate := goodIn_r _ [4, 5, 6, 7, 3, 8] (by decide +kernel) (by decide +kernel)
set_option maxRecDepth 20000 in
theorem gX4_gate_X4_isGate : GoodIn wsX4_gate (va_wsS RX4 85 yX4_isGate wsX4_isGate) := goodIn_app (goodIn_of _ (by decide +kernel)) ggX4_gate_X4_isGate
set_option maxRecDepth 20000 in
theorem ggX4_gate_X4_get : GoodIn wsX4_gate wsX4_get := goodIn_r _ [12, 13, 26, 27, 28, 29, 30, 31, 32, 33, 34, 35] (by decide +kernel) (by decide +kernel)
set_option maxRecDepth 20000 in
theorem gX4_gate_X4_get : GoodIn wsX4_gate (wsV RX4 42 RX4 yX4_get wsX4_get) := goodIn_app (goodIn_of _ (by decide +kernel)) ggX4_gate_X4_get
set_option maxRecDepth 20000 in
theorem ggX4_gate_X4_placeOf : GoodIn wsX4_gate wsX4_placeOf := goodIn_r _ [17, 18, 19, 20, 3, 21, 9, 10, 11, 12, 13, 26, 27, 28, 29, 30, 31, 32, 33, 34, 35] (by decide +kernel) (by decide +kernel)
set_option maxRecDepth 20000 in
theorem gX4_gate_X4_placeOf : GoodIn wsX4_gate (wsV RX4 104 RX4 yX4_placeOf wsX4_placeOf) := goodIn_app (goodIn_of _ (by decide +kernel)) ggX4_gate_X4_placeOf
set_option maxRecDepth 20000 in
theorem ggX4_gate_X4_isUnderWay : GoodIn wsX4_gate wsX4_isUnderWay := goodIn_r _ [21, 9, 10, 11, 3, 12, 13, 26, 27, 28, 29, 30, 31, 32, 33, 34, 35] (by decide +kernel) (by decide +kernel)
set_option maxRecDepth 20000 in
theorem gX4_gate_X4_isUnderWay : GoodIn wsX4_gate (wsV RX4 46 RX4 yX4_isUnderWay wsX4_isUnderWay) := goodIn_app (goodIn_of _ (by decide +kernel)) ggX4_gate_X4_isUnderWay
set_option maxRecDepth 20000 in
theorem ggX4_gate_X4_isBlocked : GoodIn wsX4_gate wsX4_isBlocked := goodIn_r _ [25, 13, 18, 19, 20, 3, 21, 9, 10, 11, 12, 26, 27, 28, 29, 30, 31, 32, 33, 34, 35] (by decide +kernel) (by decide +kernel)
set_option maxRecDepth 20000 in
theorem gX4_gate_X4_isBlocked : GoodIn wsX4_gate (wsV RX4 59 RX4 yX4_isBlocked wsX4_isBlocked) := goodIn_app (goodIn_of _ (by decide +kernel)) ggX4_gate_X4_isBlocked
theorem dX4_gate_0 : decode cX4_gate 0 = .ok (.iload_n 1, 1) := by decide +kernel
theorem dX4_gate_1 : decode cX4_gate 1 = .ok (.invokestatic 85, 3) := by decide +kernel
theorem dX4_gate_4 : decode cX4_gate 4 = .ok (.ifCond .ne 5, 3) := by decide +kernel
theorem dX4_gate_7 : decode cX4_gate 7 = .ok (.iconst (-1), 1) := by decide +kernel
theorem dX4_gate_8 : decode cX4_gate 8 = .ok (.ireturn, 1) := by decide +kernel
theorem dX4_gate_9 : decode cX4_gate 9 = .ok (.iload_n 2, 1) := by decide +kernel
theorem dX4_gate_10 : decode cX4_gate 10 = .ok (.tableswitch 124 0 12 #[66, 66, 73, 79, 99, 113, 113, 113, 113, 113, 113, 113, 113], 66) := by decide +kernel
theorem dX4_gate_76 : decode cX4_gate 76 = .ok (.aload_n 0, 1) := by decide +kernel
theorem dX4_gate_77 : decode cX4_gate 77 = .ok (.iload_n 1, 1) := by decide +kernel
theorem dX4_gate_78 : decode cX4_gate 78 = .ok (.iload_n 2, 1) := by decide +kernel
theorem dX4_gate_79 : decode cX4_gate 79 = .ok (.invokevirtual 42, 3) := by decide +kernel
theorem dX4_gate_82 : decode cX4_gate 82 = .ok (.ireturn, 1) := by decide +kernel
theorem dX4_gate_83 : decode cX4_gate 83 = .ok (.aload_n 0, 1) := by decide +kernel
theorem dX4_gate_84 : decode cX4_gate 84 = .ok (.iload_n 1, 1) := by decide +kernel
theorem dX4_gate_85 : decode cX4_gate 85 = .ok (.invokevirtual 104, 3) := by decide +kernel
theorem dX4_gate_88 : decode cX4_gate 88 = .ok (.ireturn, 1) := by decide +kernel
theorem dX4_gate_89 : decode cX4_gate 89 = .ok (.aload_n 0, 1) := by decide +kernel
theorem dX4_gate_90 : decode cX4_gate 90 = .ok (.iload_n 1, 1) := by decide +kernel
theorem dX4_gate_91 : decode cX4_gate 91 = .ok (.invokevirtual 46, 3) := by decide +kernel
theorem dX4_gate_94 : decode cX4_gate 94 = .ok (.ifCond .eq 12, 3) := by decide +kernel
theorem dX4_gate_97 : decode cX4_gate 97 = .ok (.aload_n 0, 1) := by decide +kernel
theorem dX4_gate_98 : decode cX4_gate 98 = .ok (.iload_n 1, 1) := by decide +kernel
theorem dX4_gate_99 : decode cX4_gate 99 = .ok (.iconst 3, 1) := by decide +kernel
theorem dX4_gate_100 : decode cX4_gate 100 = .ok (.invokevirtual 42, 3) := by decide +kernel
theorem dX4_gate_103 : decode cX4_gate 103 = .ok (.goto 5, 3) := by decide +kernel
theorem dX4_gate_106 : decode cX4_gate 106 = .ok (.bipush (-6), 2) := by decide +kernel
theorem dX4_gate_108 : decode cX4_gate 108 = .ok (.ireturn, 1) := by decide +kernel
theorem dX4_gate_109 : decode cX4_gate 109 = .ok (.aload_n 0, 1) := by decide +kernel
theorem dX4_gate_110 : decode cX4_gate 110 = .ok (.iload_n 1, 1) := by decide +kernel
theorem dX4_gate_111 : decode cX4_gate 111 = .ok (.invokevirtual 59, 3) := by decide +kernel
theorem dX4_gate_114 : decode cX4_gate 114 = .ok (.ifCond .eq 7, 3) := by decide +kernel
theorem dX4_gate_117 : decode cX4_gate 117 = .ok (.iconst 1, 1) := by decide +kernel
theorem dX4_gate_118 : decode cX4_gate 118 = .ok (.goto 4, 3) := by decide +kernel
theorem dX4_gate_121 : decode cX4_gate 121 = .ok (.iconst 0, 1) := by decide +kernel
theorem dX4_gate_122 : decode cX4_gate 122 = .ok (.ireturn, 1) := by decide +kernel
theorem dX4_gate_123 : decode cX4_gate 123 = .ok (.aload_n 0, 1) := by decide +kernel
theorem dX4_gate_124 : decode cX4_gate 124 = .ok (.iload_n 1, 1) := by decide +kernel
theorem dX4_gate_125 : decode cX4_gate 125 = .ok (.iconst 4, 1) := by decide +kernel
theorem dX4_gate_126 : decode cX4_gate 126 = .ok (.iload_n 2, 1) := by decide +kernel
theorem dX4_gate_127 : decode cX4_gate 127 = .ok (.iadd, 1) := by decide +kernel
theorem dX4_gate_128 : decode cX4_gate 128 = .ok (.iconst 5, 1) := by decide +kernel
theorem dX4_gate_129 : decode cX4_gate 129 = .ok (.isub, 1) := by decide +kernel
theorem dX4_gate_130 : decode cX4_gate 130 = .ok (.invokevirtual 42, 3) := by decide +kernel
theorem dX4_gate_133 : decode cX4_gate 133 = .ok (.ireturn, 1) := by decide +kernel
theorem dX4_gate_134 : decode cX4_gate 134 = .ok (.bipush (-2), 2) := by decide +kernel
theorem dX4_gate_136 : decode cX4_gate 136 = .ok (.ireturn, 1) := by decide +kernel
set_option maxRecDepth 20000 in
theorem ggX4_underWay_X4_isUnderWay : GoodIn wsX4_underWay wsX4_isUnderWay := goodIn_r _ [5, 6, 7, 8, 4, 9, 10, 11, 12, 13, 14, 15, 16, 17, 18, 19, 20] (by decide +kernel) (by decide +kernel)
set_option maxRecDepth 20000 in
theorem gX4_underWay_X4_isUnderWay : GoodIn wsX4_underWay (wsV RX4 46 RX4 yX4_isUnderWay wsX4_isUnderWay) := goodIn_app (goodIn_of _ (by decide +kernel)) ggX4_underWay_X4_isUnderWay
theorem dX4_underWay_0 : decode cX4_underWay 0 = .ok (.iconst 0, 1) := by decide +kernel
theorem dX4_underWay_1 : decode cX4_underWay 1 = .ok (.istore_n 1, 1) := by decide +kernel
theorem dX4_underWay_2 : decode cX4_underWay 2 = .ok (.iconst 0, 1) := by decide +kernel
theorem dX4_underWay_3 : decode cX4_underWay 3 = .ok (.istore_n 2, 1) := by decide +kernel
theorem dX4_underWay_4 : decode cX4_underWay 4 = .ok (.iload_n 2, 1) := by decide +kernel
theorem dX4_underWay_5 : decode cX4_underWay 5 = .ok (.bipush 6, 2) := by decide +kernel
theorem dX4_underWay_7 : decode cX4_underWay 7 = .ok (.if_icmp .ge 27, 3) := by decide +kernel
theorem dX4_underWay_10 : decode cX4_underWay 10 = .ok (.iload_n 1, 1) := by decide +kernel
theorem dX4_underWay_11 : decode cX4_underWay 11 = .ok (.aload_n 0, 1) := by decide +kernel
theorem dX4_underWay_12 : decode cX4_underWay 12 = .ok (.iload_n 2, 1) := by decide +kernel
theorem dX4_underWay_13 : decode cX4_underWay 13 = .ok (.invokevirtual 46, 3) := by decide +kernel
theorem dX4_underWay_16 : decode cX4_underWay 16 = .ok (.ifCond .eq 9, 3) := by decide +kernel
theorem dX4_underWay_19 : decode cX4_underWay 19 = .ok (.iconst 1, 1) := by decide +kernel
theorem dX4_underWay_20 : decode cX4_underWay 20 = .ok (.iload_n 2, 1) := by decide +kernel
theorem dX4_underWay_21 : decode cX4_underWay 21 = .ok (.ishl, 1) := by decide +kernel
theorem dX4_underWay_22 : decode cX4_underWay 22 = .ok (.goto 4, 3) := by decide +kernel
theorem dX4_underWay_25 : decode cX4_underWay 25 = .ok (.iconst 0, 1) := by decide +kernel
theorem dX4_underWay_26 : decode cX4_underWay 26 = .ok (.ior, 1) := by decide +kernel
theorem dX4_underWay_27 : decode cX4_underWay 27 = .ok (.istore_n 1, 1) := by decide +kernel
theorem dX4_underWay_28 : decode cX4_underWay 28 = .ok (.iinc 2 1, 3) := by decide +kernel
theorem dX4_underWay_31 : decode cX4_underWay 31 = .ok (.goto (-27), 3) := by decide +kernel
theorem dX4_underWay_34 : decode cX4_underWay 34 = .ok (.iload_n 1, 1) := by decide +kernel
theorem dX4_underWay_35 : decode cX4_underWay 35 = .ok (.ireturn, 1) := by decide +kernel
set_option maxRecDepth 20000 in
theorem ggX4_count_X4_in : GoodIn wsX4_count wsX4_in := goodIn_r _ [10] (by decide +kernel) (by decide +kernel)
set_option maxRecDepth 20000 in
theorem gX4_count_X4_in : GoodIn wsX4_count (va_wsS RX4 38 yX4_in wsX4_in) := goodIn_app (goodIn_of _ (by decide +kernel)) ggX4_count_X4_in
set_option maxRecDepth 20000 in
theorem ggX4_count_X4_allOf : GoodIn wsX4_count wsX4_allOf := goodIn_r _ [14, 15, 16, 17, 9, 18, 2, 35, 36, 37, 38, 39, 40, 41, 42, 43, 44] (by decide +kernel) (by decide +kernel)
set_option maxRecDepth 20000 in
theorem gX4_count_X4_allOf : GoodIn wsX4_count (wsV RX4 113 RX4 yX4_allOf wsX4_allOf) := goodIn_app (goodIn_of _ (by decide +kernel)) ggX4_count_X4_allOf
set_option maxRecDepth 20000 in
theorem ggX4_count_X4_blocked : GoodIn wsX4_count wsX4_blocked := goodIn_r _ [22, 23, 24, 25, 9, 26, 2, 27, 28, 29, 30, 15, 16, 17, 18, 35, 36, 37, 38, 39, 40, 41, 42, 43, 44] (by decide +kernel) (by decide +kernel)
set_option maxRecDepth 20000 in
theorem gX4_count_X4_blocked : GoodIn wsX4_count (wsV RX4 96 RX4 yX4_blocked wsX4_blocked) := goodIn_app (goodIn_of _ (by decide +kernel)) ggX4_count_X4_blocked
set_option maxRecDepth 20000 in
theorem ggX4_count_X4_underWay : GoodIn wsX4_count wsX4_underWay := goodIn_r _ [34, 27, 28, 29, 9, 30, 15, 16, 17, 18, 2, 35, 36, 37, 38, 39, 40, 41, 42, 43, 44] (by decide +kernel) (by decide +kernel)
set_option maxRecDepth 20000 in
theorem gX4_count_X4_underWay : GoodIn wsX4_count (wsV RX4 116 RX4 yX4_underWay wsX4_underWay) := goodIn_app (goodIn_of _ (by decide +kernel)) ggX4_count_X4_underWay
theorem dX4_count_0 : decode cX4_count 0 = .ok (.iload_n 1, 1) := by decide +kernel
theorem dX4_count_1 : decode cX4_count 1 = .ok (.i2l, 1) := by decide +kernel
theorem dX4_count_2 : decode cX4_count 2 = .ok (.lconst 0, 1) := by decide +kernel
theorem dX4_count_3 : decode cX4_count 3 = .ok (.ldc2_w 107, 3) := by decide +kernel
theorem dX4_count_6 : decode cX4_count 6 = .ok (.invokestatic 38, 3) := by decide +kernel
theorem dX4_count_9 : decode cX4_count 9 = .ok (.ifCond .eq 10, 3) := by decide +kernel
theorem dX4_count_12 : decode cX4_count 12 = .ok (.aload_n 0, 1) := by decide +kernel
theorem dX4_count_13 : decode cX4_count 13 = .ok (.getfield 7, 3) := by decide +kernel
theorem dX4_count_16 : decode cX4_count 16 = .ok (.iload_n 1, 1) := by decide +kernel
theorem dX4_count_17 : decode cX4_count 17 = .ok (.iaload, 1) := by decide +kernel
theorem dX4_count_18 : decode cX4_count 18 = .ok (.ireturn, 1) := by decide +kernel
theorem dX4_count_19 : decode cX4_count 19 = .ok (.iload_n 1, 1) := by decide +kernel
theorem dX4_count_20 : decode cX4_count 20 = .ok (.i2l, 1) := by decide +kernel
theorem dX4_count_21 : decode cX4_count 21 = .ok (.ldc2_w 109, 3) := by decide +kernel
theorem dX4_count_24 : decode cX4_count 24 = .ok (.ldc2_w 111, 3) := by decide +kernel
theorem dX4_count_27 : decode cX4_count 27 = .ok (.invokestatic 38, 3) := by decide +kernel
theorem dX4_count_30 : decode cX4_count 30 = .ok (.ifCond .eq 14, 3) := by decide +kernel
theorem dX4_count_33 : decode cX4_count 33 = .ok (.aload_n 0, 1) := by decide +kernel
theorem dX4_count_34 : decode cX4_count 34 = .ok (.iconst 4, 1) := by decide +kernel
theorem dX4_count_35 : decode cX4_count 35 = .ok (.iload_n 1, 1) := by decide +kernel
theorem dX4_count_36 : decode cX4_count 36 = .ok (.iadd, 1) := by decide +kernel
theorem dX4_count_37 : decode cX4_count 37 = .ok (.bipush 8, 2) := by decide +kernel
theorem dX4_count_39 : decode cX4_count 39 = .ok (.isub, 1) := by decide +kernel
theorem dX4_count_40 : decode cX4_count 40 = .ok (.invokevirtual 113, 3) := by decide +kernel
theorem dX4_count_43 : decode cX4_count 43 = .ok (.ireturn, 1) := by decide +kernel
theorem dX4_count_44 : decode cX4_count 44 = .ok (.iload_n 1, 1) := by decide +kernel
theorem dX4_count_45 : decode cX4_count 45 = .ok (.bipush 14, 2) := by decide +kernel
theorem dX4_count_47 : decode cX4_count 47 = .ok (.if_icmp .ne 10, 3) := by decide +kernel
theorem dX4_count_50 : decode cX4_count 50 = .ok (.aload_n 0, 1) := by decide +kernel
theorem dX4_count_51 : decode cX4_count 51 = .ok (.invokevirtual 96, 3) := by decide +kernel
theorem dX4_count_54 : decode cX4_count 54 = .ok (.goto 44, 3) := by decide +kernel
theorem dX4_count_57 : decode cX4_count 57 = .ok (.iload_n 1, 1) := by decide +kernel
theorem dX4_count_58 : decode cX4_count 58 = .ok (.bipush 15, 2) := by decide +kernel
theorem dX4_count_60 : decode cX4_count 60 = .ok (.if_icmp .ne 10, 3) := by decide +kernel
theorem dX4_count_63 : decode cX4_count 63 = .ok (.aload_n 0, 1) := by decide +kernel
theorem dX4_count_64 : decode cX4_count 64 = .ok (.invokevirtual 116, 3) := by decide +kernel
theorem dX4_count_67 : decode cX4_count 67 = .ok (.goto 31, 3) := by decide +kernel
theorem dX4_count_70 : decode cX4_count 70 = .ok (.iload_n 1, 1) := by decide +kernel
theorem dX4_count_71 : decode cX4_count 71 = .ok (.bipush 16, 2) := by decide +kernel
theorem dX4_count_73 : decode cX4_count 73 = .ok (.if_icmp .ne 10, 3) := by decide +kernel
theorem dX4_count_76 : decode cX4_count 76 = .ok (.aload_n 0, 1) := by decide +kernel
theorem dX4_count_77 : decode cX4_count 77 = .ok (.getfield 119, 3) := by decide +kernel
theorem dX4_count_80 : decode cX4_count 80 = .ok (.goto 18, 3) := by decide +kernel
theorem dX4_count_83 : decode cX4_count 83 = .ok (.iload_n 1, 1) := by decide +kernel
theorem dX4_count_84 : decode cX4_count 84 = .ok (.bipush 17, 2) := by decide +kernel
theorem dX4_count_86 : decode cX4_count 86 = .ok (.if_icmp .ne 10, 3) := by decide +kernel
theorem dX4_count_89 : decode cX4_count 89 = .ok (.aload_n 0, 1) := by decide +kernel
theorem dX4_count_90 : decode cX4_count 90 = .ok (.getfield 32, 3) := by decide +kernel
theorem dX4_count_93 : decode cX4_count 93 = .ok (.goto 5, 3) := by decide +kernel
theorem dX4_count_96 : decode cX4_count 96 = .ok (.bipush (-2), 2) := by decide +kernel
theorem dX4_count_98 : decode cX4_count 98 = .ok (.ireturn, 1) := by decide +kernel
set_option maxRecDepth 20000 in
theorem ggX4_through_X4_get : GoodIn wsX4_through wsX4_get := goodIn_r _ [5, 6, 7, 8, 9, 10, 11, 12, 13, 14, 15, 16] (by decide +kernel) (by decide +kernel)
set_option maxRecDepth 20000 in
theorem gX4_through_X4_get : GoodIn wsX4_through (wsV RX4 42 RX4 yX4_get wsX4_get) := goodIn_app (goodIn_of _ (by decide +kernel)) ggX4_through_X4_get
theorem dX4_through_0 : decode cX4_through 0 = .ok (.aload_n 0, 1) := by decide +kernel
theorem dX4_through_1 : decode cX4_through 1 = .ok (.iload_n 1, 1) := by decide +kernel
theorem dX4_through_2 : decode cX4_through 2 = .ok (.iconst 4, 1) := by decide +kernel
theorem dX4_through_3 : decode cX4_through 3 = .ok (.invokevirtual 42, 3) := by decide +kernel
theorem dX4_through_6 : decode cX4_through 6 = .ok (.aload_n 0, 1) := by decide +kernel
theorem dX4_through_7 : decode cX4_through 7 = .ok (.iload_n 1, 1) := by decide +kernel
theorem dX4_through_8 : decode cX4_through 8 = .ok (.iconst 5, 1) := by decide +kernel
theorem dX4_through_9 : decode cX4_through 9 = .ok (.invokevirtual 42, 3) := by decide +kernel
theorem dX4_through_12 : decode cX4_through 12 = .ok (.iadd, 1) := by decide +kernel
theorem dX4_through_13 : decode cX4_through 13 = .ok (.ireturn, 1) := by decide +kernel
set_option maxRecDepth 20000 in
theorem ggX4_mean_X4_isGate : GoodIn wsX4_mean wsX4_isGate := goodIn_r _ [4, 5, 6, 7, 3, 8] (by decide +kernel) (by decide +kernel)
set_option maxRecDepth 20000 in
theorem gX4_mean_X4_isGate : GoodIn wsX4_mean (va_wsS RX4 85 yX4_isGate wsX4_isGate) := goodIn_app (goodIn_of _ (by decide +kernel)) ggX4_mean_X4_isGate
set_option maxRecDepth 20000 in
theorem ggX4_mean_X4_through : GoodIn wsX4_mean wsX4_through := goodIn_r _ [12, 13, 14, 15, 3, 16, 17, 18, 19, 20, 21, 22, 23, 24, 25, 26, 27] (by decide +kernel) (by decide +kernel)
set_option maxRecDepth 20000 in
theorem gX4_mean_X4_through : GoodIn wsX4_mean (wsV RX4 122 RX4 yX4_through wsX4_through) := goodIn_app (goodIn_of _ (by decide +kernel)) ggX4_mean_X4_through
set_option maxRecDepth 20000 in
theorem ggX4_mean_X4_get : GoodIn wsX4_mean wsX4_get := goodIn_r _ [16, 17, 18, 19, 20, 21, 22, 23, 24, 25, 26, 27] (by decide +kernel) (by decide +kernel)
set_option maxRecDepth 20000 in
theorem gX4_mean_X4_get : GoodIn wsX4_mean (wsV RX4 42 RX4 yX4_get wsX4_get) := goodIn_app (goodIn_of _ (by decide +kernel)) ggX4_mean_X4_get
theorem dX4_mean_0 : decode cX4_mean 0 = .ok (.iload_n 1, 1) := by decide +kernel
theorem dX4_mean_1 : decode cX4_mean 1 = .ok (.invokestatic 85, 3) := by decide +kernel
theorem dX4_mean_4 : decode cX4_mean 4 = .ok (.ifCond .ne 7, 3) := by decide +kernel
theorem dX4_mean_7 : decode cX4_mean 7 = .ok (.iconst (-1), 1) := by decide +kernel
theorem dX4_mean_8 : decode cX4_mean 8 = .ok (.goto 29, 3) := by decide +kernel
theorem dX4_mean_11 : decode cX4_mean 11 = .ok (.aload_n 0, 1) := by decide +kernel
theorem dX4_mean_12 : decode cX4_mean 12 = .ok (.iload_n 1, 1) := by decide +kernel
theorem dX4_mean_13 : decode cX4_mean 13 = .ok (.invokevirtual 122, 3) := by decide +kernel
theorem dX4_mean_16 : decode cX4_mean 16 = .ok (.ifCond .ne 8, 3) := by decide +kernel
theorem dX4_mean_19 : decode cX4_mean 19 = .ok (.bipush (-6), 2) := by decide +kernel
theorem dX4_mean_21 : decode cX4_mean 21 = .ok (.goto 16, 3) := by decide +kernel
theorem dX4_mean_24 : decode cX4_mean 24 = .ok (.aload_n 0, 1) := by decide +kernel
theorem dX4_mean_25 : decode cX4_mean 25 = .ok (.iload_n 1, 1) := by decide +kernel
theorem dX4_mean_26 : decode cX4_mean 26 = .ok (.bipush 10, 2) := by decide +kernel
theorem dX4_mean_28 : decode cX4_mean 28 = .ok (.invokevirtual 42, 3) := by decide +kernel
theorem dX4_mean_31 : decode cX4_mean 31 = .ok (.aload_n 0, 1) := by decide +kernel
theorem dX4_mean_32 : decode cX4_mean 32 = .ok (.iload_n 1, 1) := by decide +kernel
theorem dX4_mean_33 : decode cX4_mean 33 = .ok (.invokevirtual 122, 3) := by decide +kernel
theorem dX4_mean_36 : decode cX4_mean 36 = .ok (.idiv, 1) := by decide +kernel
theorem dX4_mean_37 : decode cX4_mean 37 = .ok (.ireturn, 1) := by decide +kernel
set_option maxRecDepth 20000 in
theorem ggX4_busiest_X4_through : GoodIn wsX4_busiest wsX4_through := goodIn_r _ [5, 6, 7, 8, 4, 9, 10, 11, 12, 13, 14, 15, 16, 17, 18, 19, 20] (by decide +kernel) (by decide +kernel)
set_option maxRecDepth 20000 in
theorem gX4_busiest_X4_through : GoodIn wsX4_busiest (wsV RX4 122 RX4 yX4_through wsX4_through) := goodIn_app (goodIn_of _ (by decide +kernel)) ggX4_busiest_X4_through
theorem dX4_busiest_0 : decode cX4_busiest 0 = .ok (.bipush (-6), 2) := by decide +kernel
theorem dX4_busiest_2 : decode cX4_busiest 2 = .ok (.istore_n 1, 1) := by decide +kernel
theorem dX4_busiest_3 : decode cX4_busiest 3 = .ok (.iconst 0, 1) := by decide +kernel
theorem dX4_busiest_4 : decode cX4_busiest 4 = .ok (.istore_n 2, 1) := by decide +kernel
theorem dX4_busiest_5 : decode cX4_busiest 5 = .ok (.iconst 0, 1) := by decide +kernel
theorem dX4_busiest_6 : decode cX4_busiest 6 = .ok (.istore_n 3, 1) := by decide +kernel
theorem dX4_busiest_7 : decode cX4_busiest 7 = .ok (.iload_n 3, 1) := by decide +kernel
theorem dX4_busiest_8 : decode cX4_busiest 8 = .ok (.bipush 6, 2) := by decide +kernel
theorem dX4_busiest_10 : decode cX4_busiest 10 = .ok (.if_icmp .ge 43, 3) := by decide +kernel
theorem dX4_busiest_13 : decode cX4_busiest 13 = .ok (.aload_n 0, 1) := by decide +kernel
theorem dX4_busiest_14 : decode cX4_busiest 14 = .ok (.iload_n 3, 1) := by decide +kernel
theorem dX4_busiest_15 : decode cX4_busiest 15 = .ok (.invokevirtual 122, 3) := by decide +kernel
theorem dX4_busiest_18 : decode cX4_busiest 18 = .ok (.iload_n 2, 1) := by decide +kernel
theorem dX4_busiest_19 : decode cX4_busiest 19 = .ok (.if_icmp .le 7, 3) := by decide +kernel
theorem dX4_busiest_22 : decode cX4_busiest 22 = .ok (.iload_n 3, 1) := by decide +kernel
theorem dX4_busiest_23 : decode cX4_busiest 23 = .ok (.goto 4, 3) := by decide +kernel
theorem dX4_busiest_26 : decode cX4_busiest 26 = .ok (.iload_n 1, 1) := by decide +kernel
theorem dX4_busiest_27 : decode cX4_busiest 27 = .ok (.istore_n 1, 1) := by decide +kernel
theorem dX4_busiest_28 : decode cX4_busiest 28 = .ok (.aload_n 0, 1) := by decide +kernel
theorem dX4_busiest_29 : decode cX4_busiest 29 = .ok (.iload_n 3, 1) := by decide +kernel
theorem dX4_busiest_30 : decode cX4_busiest 30 = .ok (.invokevirtual 122, 3) := by decide +kernel
theorem dX4_busiest_33 : decode cX4_busiest 33 = .ok (.iload_n 2, 1) := by decide +kernel
theorem dX4_busiest_34 : decode cX4_busiest 34 = .ok (.if_icmp .le 11, 3) := by decide +kernel
theorem dX4_busiest_37 : decode cX4_busiest 37 = .ok (.aload_n 0, 1) := by decide +kernel
theorem dX4_busiest_38 : decode cX4_busiest 38 = .ok (.iload_n 3, 1) := by decide +kernel
theorem dX4_busiest_39 : decode cX4_busiest 39 = .ok (.invokevirtual 122, 3) := by decide +kernel
theorem dX4_busiest_42 : decode cX4_busiest 42 = .ok (.goto 4, 3) := by decide +kernel
theorem dX4_busiest_45 : decode cX4_busiest 45 = .ok (.iload_n 2, 1) := by decide +kernel
theorem dX4_busiest_46 : decode cX4_busiest 46 = .ok (.istore_n 2, 1) := by decide +kernel
theorem dX4_busiest_47 : decode cX4_busiest 47 = .ok (.iinc 3 1, 3) := by decide +kernel
theorem dX4_busiest_50 : decode cX4_busiest 50 = .ok (.goto (-43), 3) := by decide +kernel
theorem dX4_busiest_53 : decode cX4_busiest 53 = .ok (.iload_n 1, 1) := by decide +kernel
theorem dX4_busiest_54 : decode cX4_busiest 54 = .ok (.ireturn, 1) := by decide +kernel
set_option maxRecDepth 20000 in
theorem ggX4_ifRead_X4_fault : GoodIn wsX4_ifRead wsX4_fault := goodIn_r _ [7, 8, 9, 10, 11, 12, 6, 13, 14, 15, 16, 17, 18, 19, 20, 21, 22, 23, 24, 25, 26, 27, 28, 29, 30, 31, 32, 33, 34, 96, 97, 98, 99, 100, 101, 102, 103, 104, 105] (by decide +kernel) (by decide +kernel)
set_option maxRecDepth 20000 in
theorem gX4_ifRead_X4_fault : GoodIn wsX4_ifRead (wsV RX4 125 RX4 yX4_fault wsX4_fault) := goodIn_app (goodIn_of _ (by decide +kernel)) ggX4_ifRead_X4_fault
set_option maxRecDepth 20000 in
theorem ggX4_ifRead_X4_in : GoodIn wsX4_ifRead wsX4_in := goodIn_r _ [25] (by decide +kernel) (by decide +kernel)
set_option maxRecDepth 20000 in
theorem gX4_ifRead_X4_in : GoodIn wsX4_ifRead (va_wsS RX4 38 yX4_in wsX4_in) := goodIn_app (goodIn_of _ (by decide +kernel)) ggX4_ifRead_X4_in
set_option maxRecDepth 20000 in
theorem ggX4_ifRead_X4_allOf : GoodIn wsX4_ifRead wsX4_allOf := goodIn_r _ [38, 39, 40, 41, 6, 42, 2, 96, 97, 98, 99, 100, 101, 102, 103, 104, 105] (by decide +kernel) (by decide +kernel)
set_option maxRecDepth 20000 in
theorem gX4_ifRead_X4_allOf : GoodIn wsX4_ifRead (wsV RX4 113 RX4 yX4_allOf wsX4_allOf) := goodIn_app (goodIn_of _ (by decide +kernel)) ggX4_ifRead_X4_allOf
set_option maxRecDepth 20000 in
theorem ggX4_ifRead_X4_keeps : GoodIn wsX4_ifRead wsX4_keeps := goodIn_r _ [46, 47, 2, 96, 97, 98, 99, 100, 101, 102, 103, 104, 105] (by decide +kernel) (by decide +kernel)
set_option maxRecDepth 20000 in
theorem gX4_ifRead_X4_keeps : GoodIn wsX4_ifRead (wsV RX4 128 RX4 yX4_keeps wsX4_keeps) := goodIn_app (goodIn_of _ (by decide +kernel)) ggX4_ifRead_X4_keeps
set_option maxRecDepth 20000 in
theorem ggX4_ifRead_X4_reads : GoodIn wsX4_ifRead wsX4_reads := goodIn_r _ [51, 8, 2, 30, 52, 22, 14, 15, 16, 6, 17, 18, 19, 20, 21, 9, 23, 24, 25, 26, 27, 28, 29, 31, 32, 33, 34, 53, 54, 55, 56, 39, 40, 41, 42, 57, 58, 59, 60, 61, 62, 63, 64, 65, 66, 67, 68, 69, 70, 71, 72, 73, 74, 75, 76, 77, 78, 79, 80, 81, 82, 83, 84, 85, 86, 87, 88, 89, 90, 91, 96, 97, 98, 99, 100, 101, 102, 103, 104, 105] (by decide +kernel) (by decide +kernel)
set_option maxRecDepth 20000 in
theorem gX4_ifRead_X4_reads : GoodIn wsX4_ifRead (wsV RX4 131 RX4 yX4_reads wsX4_reads) := goodIn_app (goodIn_of _ (by decide +kernel)) ggX4_ifRead_X4_reads
set_option maxRecDepth 20000 in
theorem ggX4_ifRead_X4_comesBack : GoodIn wsX4_ifRead wsX4_comesBack := goodIn_r _ [95, 2, 47, 96, 97, 98, 99, 100, 101, 102, 103, 104, 105] (by decide +kernel) (by decide +kernel)
set_option maxRecDepth 20000 in
theorem gX4_ifRead_X4_comesBack : GoodIn wsX4_ifRead (wsV RX4 134 RX4 yX4_comesBack wsX4_comesBack) := goodIn_app (goodIn_of _ (by decide +kernel)) ggX4_ifRead_X4_comesBack
theorem dX4_ifRead_0 : decode cX4_ifRead 0 = .ok (.aload_n 0, 1) := by decide +kernel
theorem dX4_ifRead_1 : decode cX4_ifRead 1 = .ok (.invokevirtual 125, 3) := by decide +kernel
theorem dX4_ifRead_4 : decode cX4_ifRead 4 = .ok (.bipush (-6), 2) := by decide +kernel
theorem dX4_ifRead_6 : decode cX4_ifRead 6 = .ok (.if_icmp .eq 6, 3) := by decide +kernel
theorem dX4_ifRead_9 : decode cX4_ifRead 9 = .ok (.bipush (-3), 2) := by decide +kernel
theorem dX4_ifRead_11 : decode cX4_ifRead 11 = .ok (.ireturn, 1) := by decide +kernel
theorem dX4_ifRead_12 : decode cX4_ifRead 12 = .ok (.iload_n 1, 1) := by decide +kernel
theorem dX4_ifRead_13 : decode cX4_ifRead 13 = .ok (.i2l, 1) := by decide +kernel
theorem dX4_ifRead_14 : decode cX4_ifRead 14 = .ok (.lconst 0, 1) := by decide +kernel
theorem dX4_ifRead_15 : decode cX4_ifRead 15 = .ok (.ldc2_w 36, 3) := by decide +kernel
theorem dX4_ifRead_18 : decode cX4_ifRead 18 = .ok (.invokestatic 38, 3) := by decide +kernel
theorem dX4_ifRead_21 : decode cX4_ifRead 21 = .ok (.ifCond .ne 6, 3) := by decide +kernel
theorem dX4_ifRead_24 : decode cX4_ifRead 24 = .ok (.bipush (-2), 2) := by decide +kernel
theorem dX4_ifRead_26 : decode cX4_ifRead 26 = .ok (.ireturn, 1) := by decide +kernel
theorem dX4_ifRead_27 : decode cX4_ifRead 27 = .ok (.iload_n 1, 1) := by decide +kernel
theorem dX4_ifRead_28 : decode cX4_ifRead 28 = .ok (.iconst 4, 1) := by decide +kernel
theorem dX4_ifRead_29 : decode cX4_ifRead 29 = .ok (.if_icmp .ge 13, 3) := by decide +kernel
theorem dX4_ifRead_32 : decode cX4_ifRead 32 = .ok (.aload_n 0, 1) := by decide +kernel
theorem dX4_ifRead_33 : decode cX4_ifRead 33 = .ok (.iconst 4, 1) := by decide +kernel
theorem dX4_ifRead_34 : decode cX4_ifRead 34 = .ok (.iload_n 1, 1) := by decide +kernel
theorem dX4_ifRead_35 : decode cX4_ifRead 35 = .ok (.iadd, 1) := by decide +kernel
theorem dX4_ifRead_36 : decode cX4_ifRead 36 = .ok (.invokevirtual 113, 3) := by decide +kernel
theorem dX4_ifRead_39 : decode cX4_ifRead 39 = .ok (.goto 19, 3) := by decide +kernel
theorem dX4_ifRead_42 : decode cX4_ifRead 42 = .ok (.iload_n 1, 1) := by decide +kernel
theorem dX4_ifRead_43 : decode cX4_ifRead 43 = .ok (.iconst 4, 1) := by decide +kernel
theorem dX4_ifRead_44 : decode cX4_ifRead 44 = .ok (.if_icmp .ne 7, 3) := by decide +kernel
theorem dX4_ifRead_47 : decode cX4_ifRead 47 = .ok (.iconst 0, 1) := by decide +kernel
theorem dX4_ifRead_48 : decode cX4_ifRead 48 = .ok (.goto 10, 3) := by decide +kernel
theorem dX4_ifRead_51 : decode cX4_ifRead 51 = .ok (.aload_n 0, 1) := by decide +kernel
theorem dX4_ifRead_52 : decode cX4_ifRead 52 = .ok (.getfield 7, 3) := by decide +kernel
theorem dX4_ifRead_55 : decode cX4_ifRead 55 = .ok (.bipush 6, 2) := by decide +kernel
theorem dX4_ifRead_57 : decode cX4_ifRead 57 = .ok (.iaload, 1) := by decide +kernel
theorem dX4_ifRead_58 : decode cX4_ifRead 58 = .ok (.istore_n 2, 1) := by decide +kernel
theorem dX4_ifRead_59 : decode cX4_ifRead 59 = .ok (.aload_n 0, 1) := by decide +kernel
theorem dX4_ifRead_60 : decode cX4_ifRead 60 = .ok (.invokevirtual 128, 3) := by decide +kernel
theorem dX4_ifRead_63 : decode cX4_ifRead 63 = .ok (.aload_n 0, 1) := by decide +kernel
theorem dX4_ifRead_64 : decode cX4_ifRead 64 = .ok (.invokevirtual 131, 3) := by decide +kernel
theorem dX4_ifRead_67 : decode cX4_ifRead 67 = .ok (.istore_n 3, 1) := by decide +kernel
theorem dX4_ifRead_68 : decode cX4_ifRead 68 = .ok (.iload_n 1, 1) := by decide +kernel
theorem dX4_ifRead_69 : decode cX4_ifRead 69 = .ok (.iconst 4, 1) := by decide +kernel
theorem dX4_ifRead_70 : decode cX4_ifRead 70 = .ok (.if_icmp .ge 13, 3) := by decide +kernel
theorem dX4_ifRead_73 : decode cX4_ifRead 73 = .ok (.aload_n 0, 1) := by decide +kernel
theorem dX4_ifRead_74 : decode cX4_ifRead 74 = .ok (.iconst 4, 1) := by decide +kernel
theorem dX4_ifRead_75 : decode cX4_ifRead 75 = .ok (.iload_n 1, 1) := by decide +kernel
theorem dX4_ifRead_76 : decode cX4_ifRead 76 = .ok (.iadd, 1) := by decide +kernel
theorem dX4_ifRead_77 : decode cX4_ifRead 77 = .ok (.invokevirtual 113, 3) := by decide +kernel
theorem dX4_ifRead_80 : decode cX4_ifRead 80 = .ok (.goto 24, 3) := by decide +kernel
theorem dX4_ifRead_83 : decode cX4_ifRead 83 = .ok (.iload_n 1, 1) := by decide +kernel
theorem dX4_ifRead_84 : decode cX4_ifRead 84 = .ok (.iconst 4, 1) := by decide +kernel
theorem dX4_ifRead_85 : decode cX4_ifRead 85 = .ok (.if_icmp .ne 12, 3) := by decide +kernel
theorem dX4_ifRead_88 : decode cX4_ifRead 88 = .ok (.aload_n 0, 1) := by decide +kernel
theorem dX4_ifRead_89 : decode cX4_ifRead 89 = .ok (.getfield 7, 3) := by decide +kernel
theorem dX4_ifRead_92 : decode cX4_ifRead 92 = .ok (.iconst 4, 1) := by decide +kernel
theorem dX4_ifRead_93 : decode cX4_ifRead 93 = .ok (.iaload, 1) := by decide +kernel
theorem dX4_ifRead_94 : decode cX4_ifRead 94 = .ok (.goto 10, 3) := by decide +kernel
theorem dX4_ifRead_97 : decode cX4_ifRead 97 = .ok (.aload_n 0, 1) := by decide +kernel
theorem dX4_ifRead_98 : decode cX4_ifRead 98 = .ok (.getfield 7, 3) := by decide +kernel
theorem dX4_ifRead_101 : decode cX4_ifRead 101 = .ok (.bipush 6, 2) := by decide +kernel
theorem dX4_ifRead_103 : decode cX4_ifRead 103 = .ok (.iaload, 1) := by decide +kernel
theorem dX4_ifRead_104 : decode cX4_ifRead 104 = .ok (.istore 4, 2) := by decide +kernel
theorem dX4_ifRead_106 : decode cX4_ifRead 106 = .ok (.aload_n 0, 1) := by decide +kernel
theorem dX4_ifRead_107 : decode cX4_ifRead 107 = .ok (.invokevirtual 134, 3) := by decide +kernel
theorem dX4_ifRead_110 : decode cX4_ifRead 110 = .ok (.iload 4, 2) := by decide +kernel
theorem dX4_ifRead_112 : decode cX4_ifRead 112 = .ok (.iload_n 2, 1) := by decide +kernel
theorem dX4_ifRead_113 : decode cX4_ifRead 113 = .ok (.isub, 1) := by decide +kernel
theorem dX4_ifRead_114 : decode cX4_ifRead 114 = .ok (.ireturn, 1) := by decide +kernel
set_option maxRecDepth 20000 in
theorem ggX4_eventsTo_X4_isGate : GoodIn wsX4_eventsTo wsX4_isGate := goodIn_r _ [5, 6, 7, 8, 4, 9] (by decide +kernel) (by decide +kernel)
set_option maxRecDepth 20000 in
theorem gX4_eventsTo_X4_isGate : GoodIn wsX4_eventsTo (va_wsS RX4 85 yX4_isGate wsX4_isGate) := goodIn_app (goodIn_of _ (by decide +kernel)) ggX4_eventsTo_X4_isGate
set_option maxRecDepth 20000 in
theorem ggX4_eventsTo_X4_in : GoodIn wsX4_eventsTo wsX4_in := goodIn_r _ [9] (by decide +kernel) (by decide +kernel)
set_option maxRecDepth 20000 in
theorem gX4_eventsTo_X4_in : GoodIn wsX4_eventsTo (va_wsS RX4 38 yX4_in wsX4_in) := goodIn_app (goodIn_of _ (by decide +kernel)) ggX4_eventsTo_X4_in
set_option maxRecDepth 20000 in
theorem ggX4_eventsTo_X4_isUnderWay : GoodIn wsX4_eventsTo wsX4_isUnderWay := goodIn_r _ [13, 14, 15, 16, 4, 17, 18, 19, 20, 21, 22, 23, 24, 25, 26, 27, 28] (by decide +kernel) (by decide +kernel)
set_option maxRecDepth 20000 in
theorem gX4_eventsTo_X4_isUnderWay : GoodIn wsX4_eventsTo (wsV RX4 46 RX4 yX4_isUnderWay wsX4_isUnderWay) := goodIn_app (goodIn_of _ (by decide +kernel)) ggX4_eventsTo_X4_isUnderWay
set_option maxRecDepth 20000 in
theorem ggX4_eventsTo_X4_get : GoodIn wsX4_eventsTo wsX4_get := goodIn_r _ [17, 18, 19, 20, 21, 22, 23, 24, 25, 26, 27, 28] (by decide +kernel) (by decide +kernel)
set_option maxRecDepth 20000 in
theorem gX4_eventsTo_X4_get : GoodIn wsX4_eventsTo (wsV RX4 42 RX4 yX4_get wsX4_get) := goodIn_app (goodIn_of _ (by decide +kernel)) ggX4_eventsTo_X4_get
theorem dX4_eventsTo_0 : decode cX4_eventsTo 0 = .ok (.iload_n 1, 1) := by decide +kernel
theorem dX4_eventsTo_1 : decode cX4_eventsTo 1 = .ok (.invokestatic 85, 3) := by decide +kernel
theorem dX4_eventsTo_4 : decode cX4_eventsTo 4 = .ok (.ifCond .ne 5, 3) := by decide +kernel
theorem dX4_eventsTo_7 : decode cX4_eventsTo 7 = .ok (.iconst (-1), 1) := by decide +kernel
theorem dX4_eventsTo_8 : decode cX4_eventsTo 8 = .ok (.ireturn, 1) := by decide +kernel
theorem dX4_eventsTo_9 : decode cX4_eventsTo 9 = .ok (.iload_n 2, 1) := by decide +kernel
theorem dX4_eventsTo_10 : decode cX4_eventsTo 10 = .ok (.i2l, 1) := by decide +kernel
theorem dX4_eventsTo_11 : decode cX4_eventsTo 11 = .ok (.lconst 0, 1) := by decide +kernel
theorem dX4_eventsTo_12 : decode cX4_eventsTo 12 = .ok (.ldc2_w 88, 3) := by decide +kernel
theorem dX4_eventsTo_15 : decode cX4_eventsTo 15 = .ok (.invokestatic 38, 3) := by decide +kernel
theorem dX4_eventsTo_18 : decode cX4_eventsTo 18 = .ok (.ifCond .ne 6, 3) := by decide +kernel
theorem dX4_eventsTo_21 : decode cX4_eventsTo 21 = .ok (.bipush (-2), 2) := by decide +kernel
theorem dX4_eventsTo_23 : decode cX4_eventsTo 23 = .ok (.ireturn, 1) := by decide +kernel
theorem dX4_eventsTo_24 : decode cX4_eventsTo 24 = .ok (.aload_n 0, 1) := by decide +kernel
theorem dX4_eventsTo_25 : decode cX4_eventsTo 25 = .ok (.iload_n 1, 1) := by decide +kernel
theorem dX4_eventsTo_26 : decode cX4_eventsTo 26 = .ok (.invokevirtual 46, 3) := by decide +kernel
theorem dX4_eventsTo_29 : decode cX4_eventsTo 29 = .ok (.ifCond .eq 12, 3) := by decide +kernel
theorem dX4_eventsTo_32 : decode cX4_eventsTo 32 = .ok (.aload_n 0, 1) := by decide +kernel
theorem dX4_eventsTo_33 : decode cX4_eventsTo 33 = .ok (.iload_n 1, 1) := by decide +kernel
theorem dX4_eventsTo_34 : decode cX4_eventsTo 34 = .ok (.iconst 3, 1) := by decide +kernel
theorem dX4_eventsTo_35 : decode cX4_eventsTo 35 = .ok (.invokevirtual 42, 3) := by decide +kernel
theorem dX4_eventsTo_38 : decode cX4_eventsTo 38 = .ok (.ifCond .ne 6, 3) := by decide +kernel
theorem dX4_eventsTo_41 : decode cX4_eventsTo 41 = .ok (.bipush (-5), 2) := by decide +kernel
theorem dX4_eventsTo_43 : decode cX4_eventsTo 43 = .ok (.ireturn, 1) := by decide +kernel
theorem dX4_eventsTo_44 : decode cX4_eventsTo 44 = .ok (.aload_n 0, 1) := by decide +kernel
theorem dX4_eventsTo_45 : decode cX4_eventsTo 45 = .ok (.iload_n 1, 1) := by decide +kernel
theorem dX4_eventsTo_46 : decode cX4_eventsTo 46 = .ok (.iconst 2, 1) := by decide +kernel
theorem dX4_eventsTo_47 : decode cX4_eventsTo 47 = .ok (.invokevirtual 42, 3) := by decide +kernel
theorem dX4_eventsTo_50 : decode cX4_eventsTo 50 = .ok (.istore_n 3, 1) := by decide +kernel
theorem dX4_eventsTo_51 : decode cX4_eventsTo 51 = .ok (.iload_n 2, 1) := by decide +kernel
theorem dX4_eventsTo_52 : decode cX4_eventsTo 52 = .ok (.iconst 2, 1) := by decide +kernel
theorem dX4_eventsTo_53 : decode cX4_eventsTo 53 = .ok (.if_icmp .ne 14, 3) := by decide +kernel
theorem dX4_eventsTo_56 : decode cX4_eventsTo 56 = .ok (.iload_n 3, 1) := by decide +kernel
theorem dX4_eventsTo_57 : decode cX4_eventsTo 57 = .ok (.ifCond .ge 8, 3) := by decide +kernel
theorem dX4_eventsTo_60 : decode cX4_eventsTo 60 = .ok (.iload_n 3, 1) := by decide +kernel
theorem dX4_eventsTo_61 : decode cX4_eventsTo 61 = .ok (.ineg, 1) := by decide +kernel
theorem dX4_eventsTo_62 : decode cX4_eventsTo 62 = .ok (.goto 4, 3) := by decide +kernel
theorem dX4_eventsTo_65 : decode cX4_eventsTo 65 = .ok (.iload_n 3, 1) := by decide +kernel
theorem dX4_eventsTo_66 : decode cX4_eventsTo 66 = .ok (.ireturn, 1) := by decide +kernel
theorem dX4_eventsTo_67 : decode cX4_eventsTo 67 = .ok (.iload_n 2, 1) := by decide +kernel
theorem dX4_eventsTo_68 : decode cX4_eventsTo 68 = .ok (.ifCond .ne 9, 3) := by decide +kernel
theorem dX4_eventsTo_71 : decode cX4_eventsTo 71 = .ok (.iconst 4, 1) := by decide +kernel
theorem dX4_eventsTo_72 : decode cX4_eventsTo 72 = .ok (.iload_n 3, 1) := by decide +kernel
theorem dX4_eventsTo_73 : decode cX4_eventsTo 73 = .ok (.isub, 1) := by decide +kernel
theorem dX4_eventsTo_74 : decode cX4_eventsTo 74 = .ok (.goto 6, 3) := by decide +kernel
theorem dX4_eventsTo_77 : decode cX4_eventsTo 77 = .ok (.iconst 4, 1) := by decide +kernel
theorem dX4_eventsTo_78 : decode cX4_eventsTo 78 = .ok (.iload_n 3, 1) := by decide +kernel
theorem dX4_eventsTo_79 : decode cX4_eventsTo 79 = .ok (.iadd, 1) := by decide +kernel
theorem dX4_eventsTo_80 : decode cX4_eventsTo 80 = .ok (.istore 4, 2) := by decide +kernel
theorem dX4_eventsTo_82 : decode cX4_eventsTo 82 = .ok (.iload 4, 2) := by decide +kernel
theorem dX4_eventsTo_84 : decode cX4_eventsTo 84 = .ok (.iconst 4, 1) := by decide +kernel
theorem dX4_eventsTo_85 : decode cX4_eventsTo 85 = .ok (.if_icmp .ge 8, 3) := by decide +kernel
theorem dX4_eventsTo_88 : decode cX4_eventsTo 88 = .ok (.iload 4, 2) := by decide +kernel
theorem dX4_eventsTo_90 : decode cX4_eventsTo 90 = .ok (.goto 5, 3) := by decide +kernel
theorem dX4_eventsTo_93 : decode cX4_eventsTo 93 = .ok (.bipush (-6), 2) := by decide +kernel
theorem dX4_eventsTo_95 : decode cX4_eventsTo 95 = .ok (.ireturn, 1) := by decide +kernel
set_option maxRecDepth 20000 in
theorem ggX4_untilBlocked_X4_get : GoodIn wsX4_untilBlocked wsX4_get := goodIn_r _ [6, 1, 11, 12, 13, 14, 15, 16, 17, 18, 19, 20] (by decide +kernel) (by decide +kernel)
set_option maxRecDepth 20000 in
theorem gX4_untilBlocked_X4_get : GoodIn wsX4_untilBlocked (wsV RX4 42 RX4 yX4_get wsX4_get) := goodIn_app (goodIn_of _ (by decide +kernel)) ggX4_untilBlocked_X4_get
set_option maxRecDepth 20000 in
theorem ggX4_untilBlocked_X4_isUnderWay : GoodIn wsX4_untilBlocked wsX4_isUnderWay := goodIn_r _ [10, 2, 3, 4, 5, 6, 1, 11, 12, 13, 14, 15, 16, 17, 18, 19, 20] (by decide +kernel) (by decide +kernel)
set_option maxRecDepth 20000 in
theorem gX4_untilBlocked_X4_isUnderWay : GoodIn wsX4_untilBlocked (wsV RX4 46 RX4 yX4_isUnderWay wsX4_isUnderWay) := goodIn_app (goodIn_of _ (by decide +kernel)) ggX4_untilBlocked_X4_isUnderWay
theorem dX4_untilBlocked_0 : decode cX4_untilBlocked 0 = .ok (.bipush (-6), 2) := by decide +kernel
theorem dX4_untilBlocked_2 : decode cX4_untilBlocked 2 = .ok (.istore_n 1, 1) := by decide +kernel
theorem dX4_untilBlocked_3 : decode cX4_untilBlocked 3 = .ok (.iconst 0, 1) := by decide +kernel
theorem dX4_untilBlocked_4 : decode cX4_untilBlocked 4 = .ok (.istore_n 2, 1) := by decide +kernel
theorem dX4_untilBlocked_5 : decode cX4_untilBlocked 5 = .ok (.iload_n 2, 1) := by decide +kernel
theorem dX4_untilBlocked_6 : decode cX4_untilBlocked 6 = .ok (.bipush 6, 2) := by decide +kernel
theorem dX4_untilBlocked_8 : decode cX4_untilBlocked 8 = .ok (.if_icmp .ge 71, 3) := by decide +kernel
theorem dX4_untilBlocked_11 : decode cX4_untilBlocked 11 = .ok (.aload_n 0, 1) := by decide +kernel
theorem dX4_untilBlocked_12 : decode cX4_untilBlocked 12 = .ok (.getfield 7, 3) := by decide +kernel
theorem dX4_untilBlocked_15 : decode cX4_untilBlocked 15 = .ok (.iconst 0, 1) := by decide +kernel
theorem dX4_untilBlocked_16 : decode cX4_untilBlocked 16 = .ok (.iaload, 1) := by decide +kernel
theorem dX4_untilBlocked_17 : decode cX4_untilBlocked 17 = .ok (.aload_n 0, 1) := by decide +kernel
theorem dX4_untilBlocked_18 : decode cX4_untilBlocked 18 = .ok (.getfield 7, 3) := by decide +kernel
theorem dX4_untilBlocked_21 : decode cX4_untilBlocked 21 = .ok (.iconst 3, 1) := by decide +kernel
theorem dX4_untilBlocked_22 : decode cX4_untilBlocked 22 = .ok (.iaload, 1) := by decide +kernel
theorem dX4_untilBlocked_23 : decode cX4_untilBlocked 23 = .ok (.aload_n 0, 1) := by decide +kernel
theorem dX4_untilBlocked_24 : decode cX4_untilBlocked 24 = .ok (.iload_n 2, 1) := by decide +kernel
theorem dX4_untilBlocked_25 : decode cX4_untilBlocked 25 = .ok (.iconst 1, 1) := by decide +kernel
theorem dX4_untilBlocked_26 : decode cX4_untilBlocked 26 = .ok (.invokevirtual 42, 3) := by decide +kernel
theorem dX4_untilBlocked_29 : decode cX4_untilBlocked 29 = .ok (.isub, 1) := by decide +kernel
theorem dX4_untilBlocked_30 : decode cX4_untilBlocked 30 = .ok (.isub, 1) := by decide +kernel
theorem dX4_untilBlocked_31 : decode cX4_untilBlocked 31 = .ok (.istore_n 3, 1) := by decide +kernel
theorem dX4_untilBlocked_32 : decode cX4_untilBlocked 32 = .ok (.aload_n 0, 1) := by decide +kernel
theorem dX4_untilBlocked_33 : decode cX4_untilBlocked 33 = .ok (.iload_n 2, 1) := by decide +kernel
theorem dX4_untilBlocked_34 : decode cX4_untilBlocked 34 = .ok (.invokevirtual 46, 3) := by decide +kernel
theorem dX4_untilBlocked_37 : decode cX4_untilBlocked 37 = .ok (.ifCond .eq 22, 3) := by decide +kernel
theorem dX4_untilBlocked_40 : decode cX4_untilBlocked 40 = .ok (.iload_n 3, 1) := by decide +kernel
theorem dX4_untilBlocked_41 : decode cX4_untilBlocked 41 = .ok (.ifCond .le 18, 3) := by decide +kernel
theorem dX4_untilBlocked_44 : decode cX4_untilBlocked 44 = .ok (.iload_n 1, 1) := by decide +kernel
theorem dX4_untilBlocked_45 : decode cX4_untilBlocked 45 = .ok (.bipush (-6), 2) := by decide +kernel
theorem dX4_untilBlocked_47 : decode cX4_untilBlocked 47 = .ok (.if_icmp .eq 8, 3) := by decide +kernel
theorem dX4_untilBlocked_50 : decode cX4_untilBlocked 50 = .ok (.iload_n 3, 1) := by decide +kernel
theorem dX4_untilBlocked_51 : decode cX4_untilBlocked 51 = .ok (.iload_n 1, 1) := by decide +kernel
theorem dX4_untilBlocked_52 : decode cX4_untilBlocked 52 = .ok (.if_icmp .ge 7, 3) := by decide +kernel
theorem dX4_untilBlocked_55 : decode cX4_untilBlocked 55 = .ok (.iconst 1, 1) := by decide +kernel
theorem dX4_untilBlocked_56 : decode cX4_untilBlocked 56 = .ok (.goto 4, 3) := by decide +kernel
theorem dX4_untilBlocked_59 : decode cX4_untilBlocked 59 = .ok (.iconst 0, 1) := by decide +kernel
theorem dX4_untilBlocked_60 : decode cX4_untilBlocked 60 = .ok (.istore 4, 2) := by decide +kernel
theorem dX4_untilBlocked_62 : decode cX4_untilBlocked 62 = .ok (.iload 4, 2) := by decide +kernel
theorem dX4_untilBlocked_64 : decode cX4_untilBlocked 64 = .ok (.ifCond .eq 7, 3) := by decide +kernel
theorem dX4_untilBlocked_67 : decode cX4_untilBlocked 67 = .ok (.iload_n 3, 1) := by decide +kernel
theorem dX4_untilBlocked_68 : decode cX4_untilBlocked 68 = .ok (.goto 4, 3) := by decide +kernel
theorem dX4_untilBlocked_71 : decode cX4_untilBlocked 71 = .ok (.iload_n 1, 1) := by decide +kernel
theorem dX4_untilBlocked_72 : decode cX4_untilBlocked 72 = .ok (.istore_n 1, 1) := by decide +kernel
theorem dX4_untilBlocked_73 : decode cX4_untilBlocked 73 = .ok (.iinc 2 1, 3) := by decide +kernel
theorem dX4_untilBlocked_76 : decode cX4_untilBlocked 76 = .ok (.goto (-71), 3) := by decide +kernel
theorem dX4_untilBlocked_79 : decode cX4_untilBlocked 79 = .ok (.iload_n 1, 1) := by decide +kernel
theorem dX4_untilBlocked_80 : decode cX4_untilBlocked 80 = .ok (.ireturn, 1) := by decide +kernel
set_option maxRecDepth 20000 in
theorem ggX4_charactersOf_X4_in : GoodIn wsX4_charactersOf wsX4_in := goodIn_r _ [7] (by decide +kernel) (by decide +kernel)
set_option maxRecDepth 20000 in
theorem gX4_charactersOf_X4_in : GoodIn wsX4_charactersOf (va_wsS RX4 38 yX4_in wsX4_in) := goodIn_app (goodIn_of _ (by decide +kernel)) ggX4_charactersOf_X4_in
theorem dX4_charactersOf_0 : decode cX4_charactersOf 0 = .ok (.lload_n 0, 1) := by decide +kernel
theorem dX4_charactersOf_1 : decode cX4_charactersOf 1 = .ok (.lstore_n 2, 1) := by decide +kernel
theorem dX4_charactersOf_2 : decode cX4_charactersOf 2 = .ok (.iconst 0, 1) := by decide +kernel
theorem dX4_charactersOf_3 : decode cX4_charactersOf 3 = .ok (.istore 4, 2) := by decide +kernel
theorem dX4_charactersOf_5 : decode cX4_charactersOf 5 = .ok (.iload 4, 2) := by decide +kernel
theorem dX4_charactersOf_7 : decode cX4_charactersOf 7 = .ok (.bipush 8, 2) := by decide +kernel
theorem dX4_charactersOf_9 : decode cX4_charactersOf 9 = .ok (.if_icmp .ge 31, 3) := by decide +kernel
theorem dX4_charactersOf_12 : decode cX4_charactersOf 12 = .ok (.lload_n 2, 1) := by decide +kernel
theorem dX4_charactersOf_13 : decode cX4_charactersOf 13 = .ok (.ldc2_w 137, 3) := by decide +kernel
theorem dX4_charactersOf_16 : decode cX4_charactersOf 16 = .ok (.land, 1) := by decide +kernel
theorem dX4_charactersOf_17 : decode cX4_charactersOf 17 = .ok (.ldc2_w 139, 3) := by decide +kernel
theorem dX4_charactersOf_20 : decode cX4_charactersOf 20 = .ok (.ldc2_w 141, 3) := by decide +kernel
theorem dX4_charactersOf_23 : decode cX4_charactersOf 23 = .ok (.invokestatic 38, 3) := by decide +kernel
theorem dX4_charactersOf_26 : decode cX4_charactersOf 26 = .ok (.ifCond .eq 14, 3) := by decide +kernel
theorem dX4_charactersOf_29 : decode cX4_charactersOf 29 = .ok (.lload_n 2, 1) := by decide +kernel
theorem dX4_charactersOf_30 : decode cX4_charactersOf 30 = .ok (.bipush 8, 2) := by decide +kernel
theorem dX4_charactersOf_32 : decode cX4_charactersOf 32 = .ok (.lushr, 1) := by decide +kernel
theorem dX4_charactersOf_33 : decode cX4_charactersOf 33 = .ok (.lstore_n 2, 1) := by decide +kernel
theorem dX4_charactersOf_34 : decode cX4_charactersOf 34 = .ok (.iinc 4 1, 3) := by decide +kernel
theorem dX4_charactersOf_37 : decode cX4_charactersOf 37 = .ok (.goto (-32), 3) := by decide +kernel
theorem dX4_charactersOf_40 : decode cX4_charactersOf 40 = .ok (.lload_n 2, 1) := by decide +kernel
theorem dX4_charactersOf_41 : decode cX4_charactersOf 41 = .ok (.lconst 0, 1) := by decide +kernel
theorem dX4_charactersOf_42 : decode cX4_charactersOf 42 = .ok (.lcmp, 1) := by decide +kernel
theorem dX4_charactersOf_43 : decode cX4_charactersOf 43 = .ok (.ifCond .ne 8, 3) := by decide +kernel
theorem dX4_charactersOf_46 : decode cX4_charactersOf 46 = .ok (.iload 4, 2) := by decide +kernel
theorem dX4_charactersOf_48 : decode cX4_charactersOf 48 = .ok (.goto 4, 3) := by decide +kernel
theorem dX4_charactersOf_51 : decode cX4_charactersOf 51 = .ok (.iconst 0, 1) := by decide +kernel
theorem dX4_charactersOf_52 : decode cX4_charactersOf 52 = .ok (.ireturn, 1) := by decide +kernel
set_option maxRecDepth 20000 in
theorem ggX4_put_X4_charactersOf : GoodIn wsX4_put wsX4_charactersOf := goodIn_r _ [7, 3, 8, 9, 10, 11, 6, 12] (by decide +kernel) (by decide +kernel)
set_option maxRecDepth 20000 in
theorem gX4_put_X4_charactersOf : GoodIn wsX4_put (va_wsS RX4 143 yX4_charactersOf wsX4_charactersOf) := goodIn_app (goodIn_of _ (by decide +kernel)) ggX4_put_X4_charactersOf
theorem dX4_put_0 : decode cX4_put 0 = .ok (.lload_n 1, 1) := by decide +kernel
theorem dX4_put_1 : decode cX4_put 1 = .ok (.invokestatic 143, 3) := by decide +kernel
theorem dX4_put_4 : decode cX4_put 4 = .ok (.istore_n 3, 1) := by decide +kernel
theorem dX4_put_5 : decode cX4_put 5 = .ok (.iload_n 3, 1) := by decide +kernel
theorem dX4_put_6 : decode cX4_put 6 = .ok (.ifCond .ne 6, 3) := by decide +kernel
theorem dX4_put_9 : decode cX4_put 9 = .ok (.bipush (-2), 2) := by decide +kernel
theorem dX4_put_11 : decode cX4_put 11 = .ok (.ireturn, 1) := by decide +kernel
theorem dX4_put_12 : decode cX4_put 12 = .ok (.aload_n 0, 1) := by decide +kernel
theorem dX4_put_13 : decode cX4_put 13 = .ok (.getfield 119, 3) := by decide +kernel
theorem dX4_put_16 : decode cX4_put 16 = .ok (.iload_n 3, 1) := by decide +kernel
theorem dX4_put_17 : decode cX4_put 17 = .ok (.iadd, 1) := by decide +kernel
theorem dX4_put_18 : decode cX4_put 18 = .ok (.bipush 60, 2) := by decide +kernel
theorem dX4_put_20 : decode cX4_put 20 = .ok (.if_icmp .le 6, 3) := by decide +kernel
theorem dX4_put_23 : decode cX4_put 23 = .ok (.bipush (-4), 2) := by decide +kernel
theorem dX4_put_25 : decode cX4_put 25 = .ok (.ireturn, 1) := by decide +kernel
theorem dX4_put_26 : decode cX4_put 26 = .ok (.iconst 0, 1) := by decide +kernel
theorem dX4_put_27 : decode cX4_put 27 = .ok (.istore 4, 2) := by decide +kernel
theorem dX4_put_29 : decode cX4_put 29 = .ok (.iload 4, 2) := by decide +kernel
theorem dX4_put_31 : decode cX4_put 31 = .ok (.iload_n 3, 1) := by decide +kernel
theorem dX4_put_32 : decode cX4_put 32 = .ok (.if_icmp .ge 37, 3) := by decide +kernel
theorem dX4_put_35 : decode cX4_put 35 = .ok (.aload_n 0, 1) := by decide +kernel
theorem dX4_put_36 : decode cX4_put 36 = .ok (.getfield 25, 3) := by decide +kernel
theorem dX4_put_39 : decode cX4_put 39 = .ok (.aload_n 0, 1) := by decide +kernel
theorem dX4_put_40 : decode cX4_put 40 = .ok (.getfield 119, 3) := by decide +kernel
theorem dX4_put_43 : decode cX4_put 43 = .ok (.iload 4, 2) := by decide +kernel
theorem dX4_put_45 : decode cX4_put 45 = .ok (.iadd, 1) := by decide +kernel
theorem dX4_put_46 : decode cX4_put 46 = .ok (.lload_n 1, 1) := by decide +kernel
theorem dX4_put_47 : decode cX4_put 47 = .ok (.bipush 8, 2) := by decide +kernel
theorem dX4_put_49 : decode cX4_put 49 = .ok (.iload_n 3, 1) := by decide +kernel
theorem dX4_put_50 : decode cX4_put 50 = .ok (.iconst 1, 1) := by decide +kernel
theorem dX4_put_51 : decode cX4_put 51 = .ok (.isub, 1) := by decide +kernel
theorem dX4_put_52 : decode cX4_put 52 = .ok (.iload 4, 2) := by decide +kernel
theorem dX4_put_54 : decode cX4_put 54 = .ok (.isub, 1) := by decide +kernel
theorem dX4_put_55 : decode cX4_put 55 = .ok (.imul, 1) := by decide +kernel
theorem dX4_put_56 : decode cX4_put 56 = .ok (.lushr, 1) := by decide +kernel
theorem dX4_put_57 : decode cX4_put 57 = .ok (.ldc2_w 137, 3) := by decide +kernel
theorem dX4_put_60 : decode cX4_put 60 = .ok (.land, 1) := by decide +kernel
theorem dX4_put_61 : decode cX4_put 61 = .ok (.l2i, 1) := by decide +kernel
theorem dX4_put_62 : decode cX4_put 62 = .ok (.iastore, 1) := by decide +kernel
theorem dX4_put_63 : decode cX4_put 63 = .ok (.iinc 4 1, 3) := by decide +kernel
theorem dX4_put_66 : decode cX4_put 66 = .ok (.goto (-37), 3) := by decide +kernel
theorem dX4_put_69 : decode cX4_put 69 = .ok (.aload_n 0, 1) := by decide +kernel
theorem dX4_put_70 : decode cX4_put 70 = .ok (.dup, 1) := by decide +kernel
theorem dX4_put_71 : decode cX4_put 71 = .ok (.getfield 119, 3) := by decide +kernel
theorem dX4_put_74 : decode cX4_put 74 = .ok (.iload_n 3, 1) := by decide +kernel
theorem dX4_put_75 : decode cX4_put 75 = .ok (.iadd, 1) := by decide +kernel
theorem dX4_put_76 : decode cX4_put 76 = .ok (.putfield 119, 3) := by decide +kernel
theorem dX4_put_79 : decode cX4_put 79 = .ok (.aload_n 0, 1) := by decide +kernel
theorem dX4_put_80 : decode cX4_put 80 = .ok (.getfield 119, 3) := by decide +kernel
theorem dX4_put_83 : decode cX4_put 83 = .ok (.ireturn, 1) := by decide +kernel
theorem dX4_wipe_0 : decode cX4_wipe 0 = .ok (.aload_n 0, 1) := by decide +kernel
theorem dX4_wipe_1 : decode cX4_wipe 1 = .ok (.getfield 119, 3) := by decide +kernel
theorem dX4_wipe_4 : decode cX4_wipe 4 = .ok (.istore_n 1, 1) := by decide +kernel
theorem dX4_wipe_5 : decode cX4_wipe 5 = .ok (.aload_n 0, 1) := by decide +kernel
theorem dX4_wipe_6 : decode cX4_wipe 6 = .ok (.iconst 0, 1) := by decide +kernel
theorem dX4_wipe_7 : decode cX4_wipe 7 = .ok (.putfield 119, 3) := by decide +kernel
theorem dX4_wipe_10 : decode cX4_wipe 10 = .ok (.iload_n 1, 1) := by decide +kernel
theorem dX4_wipe_11 : decode cX4_wipe 11 = .ok (.ireturn, 1) := by decide +kernel
set_option maxRecDepth 20000 in
theorem ggX4_isHere_X4_in : GoodIn wsX4_isHere wsX4_in := goodIn_r _ [7] (by decide +kernel) (by decide +kernel)
set_option maxRecDepth 20000 in
theorem gX4_isHere_X4_in : GoodIn wsX4_isHere (va_wsS RX4 38 yX4_in wsX4_in) := goodIn_app (goodIn_of _ (by decide +kernel)) ggX4_isHere_X4_in
theorem dX4_isHere_0 : decode cX4_isHere 0 = .ok (.aload_n 0, 1) := by decide +kernel
theorem dX4_isHere_1 : decode cX4_isHere 1 = .ok (.getfield 147, 3) := by decide +kernel
theorem dX4_isHere_4 : decode cX4_isHere 4 = .ok (.aload_n 0, 1) := by decide +kernel
theorem dX4_isHere_5 : decode cX4_isHere 5 = .ok (.getfield 119, 3) := by decide +kernel
theorem dX4_isHere_8 : decode cX4_isHere 8 = .ok (.if_icmp .ge 27, 3) := by decide +kernel
theorem dX4_isHere_11 : decode cX4_isHere 11 = .ok (.aload_n 0, 1) := by decide +kernel
theorem dX4_isHere_12 : decode cX4_isHere 12 = .ok (.getfield 25, 3) := by decide +kernel
theorem dX4_isHere_15 : decode cX4_isHere 15 = .ok (.aload_n 0, 1) := by decide +kernel
theorem dX4_isHere_16 : decode cX4_isHere 16 = .ok (.getfield 147, 3) := by decide +kernel
theorem dX4_isHere_19 : decode cX4_isHere 19 = .ok (.iaload, 1) := by decide +kernel
theorem dX4_isHere_20 : decode cX4_isHere 20 = .ok (.i2l, 1) := by decide +kernel
theorem dX4_isHere_21 : decode cX4_isHere 21 = .ok (.iload_n 1, 1) := by decide +kernel
theorem dX4_isHere_22 : decode cX4_isHere 22 = .ok (.i2l, 1) := by decide +kernel
theorem dX4_isHere_23 : decode cX4_isHere 23 = .ok (.iload_n 2, 1) := by decide +kernel
theorem dX4_isHere_24 : decode cX4_isHere 24 = .ok (.i2l, 1) := by decide +kernel
theorem dX4_isHere_25 : decode cX4_isHere 25 = .ok (.invokestatic 38, 3) := by decide +kernel
theorem dX4_isHere_28 : decode cX4_isHere 28 = .ok (.ifCond .eq 7, 3) := by decide +kernel
theorem dX4_isHere_31 : decode cX4_isHere 31 = .ok (.iconst 1, 1) := by decide +kernel
theorem dX4_isHere_32 : decode cX4_isHere 32 = .ok (.goto 4, 3) := by decide +kernel
theorem dX4_isHere_35 : decode cX4_isHere 35 = .ok (.iconst 0, 1) := by decide +kernel
theorem dX4_isHere_36 : decode cX4_isHere 36 = .ok (.ireturn, 1) := by decide +kernel
set_option maxRecDepth 20000 in
theorem ggX4_takesOne_X4_isHere : GoodIn wsX4_takesOne wsX4_isHere := goodIn_r _ [6, 1, 7, 8, 9, 10, 5, 11, 12, 13, 14, 15, 16, 17, 18, 19, 20, 21] (by decide +kernel) (by decide +kernel)
set_option maxRecDepth 20000 in
theorem gX4_takesOne_X4_isHere : GoodIn wsX4_takesOne (wsV RX4 150 RX4 yX4_isHere wsX4_isHere) := goodIn_app (goodIn_of _ (by decide +kernel)) ggX4_takesOne_X4_isHere
theorem dX4_takesOne_0 : decode cX4_takesOne 0 = .ok (.aload_n 0, 1) := by decide +kernel
theorem dX4_takesOne_1 : decode cX4_takesOne 1 = .ok (.iload_n 1, 1) := by decide +kernel
theorem dX4_takesOne_2 : decode cX4_takesOne 2 = .ok (.iload_n 1, 1) := by decide +kernel
theorem dX4_takesOne_3 : decode cX4_takesOne 3 = .ok (.invokevirtual 150, 3) := by decide +kernel
theorem dX4_takesOne_6 : decode cX4_takesOne 6 = .ok (.istore_n 2, 1) := by decide +kernel
theorem dX4_takesOne_7 : decode cX4_takesOne 7 = .ok (.aload_n 0, 1) := by decide +kernel
theorem dX4_takesOne_8 : decode cX4_takesOne 8 = .ok (.dup, 1) := by decide +kernel
theorem dX4_takesOne_9 : decode cX4_takesOne 9 = .ok (.getfield 147, 3) := by decide +kernel
theorem dX4_takesOne_12 : decode cX4_takesOne 12 = .ok (.iload_n 2, 1) := by decide +kernel
theorem dX4_takesOne_13 : decode cX4_takesOne 13 = .ok (.ifCond .eq 7, 3) := by decide +kernel
theorem dX4_takesOne_16 : decode cX4_takesOne 16 = .ok (.iconst 1, 1) := by decide +kernel
theorem dX4_takesOne_17 : decode cX4_takesOne 17 = .ok (.goto 4, 3) := by decide +kernel
theorem dX4_takesOne_20 : decode cX4_takesOne 20 = .ok (.iconst 0, 1) := by decide +kernel
theorem dX4_takesOne_21 : decode cX4_takesOne 21 = .ok (.iadd, 1) := by decide +kernel
theorem dX4_takesOne_22 : decode cX4_takesOne 22 = .ok (.putfield 147, 3) := by decide +kernel
theorem dX4_takesOne_25 : decode cX4_takesOne 25 = .ok (.iload_n 2, 1) := by decide +kernel
theorem dX4_takesOne_26 : decode cX4_takesOne 26 = .ok (.ireturn, 1) := by decide +kernel
set_option maxRecDepth 20000 in
theorem ggX4_beam_X4_takesOne : GoodIn wsX4_beam wsX4_takesOne := goodIn_r _ [5, 6, 7, 8, 9, 4, 10, 11, 12, 13, 14, 15, 16, 17, 18, 19, 20, 21, 22, 23, 24, 25] (by decide +kernel) (by decide +kernel)
set_option maxRecDepth 20000 in
theorem gX4_beam_X4_takesOne : GoodIn wsX4_beam (wsV RX4 153 RX4 yX4_takesOne wsX4_takesOne) := goodIn_app (goodIn_of _ (by decide +kernel)) ggX4_beam_X4_takesOne
theorem dX4_beam_0 : decode cX4_beam 0 = .ok (.aload_n 0, 1) := by decide +kernel
theorem dX4_beam_1 : decode cX4_beam 1 = .ok (.bipush 111, 2) := by decide +kernel
theorem dX4_beam_3 : decode cX4_beam 3 = .ok (.invokevirtual 153, 3) := by decide +kernel
theorem dX4_beam_6 : decode cX4_beam 6 = .ok (.ifCond .eq 7, 3) := by decide +kernel
theorem dX4_beam_9 : decode cX4_beam 9 = .ok (.iconst 0, 1) := by decide +kernel
theorem dX4_beam_10 : decode cX4_beam 10 = .ok (.goto 31, 3) := by decide +kernel
theorem dX4_beam_13 : decode cX4_beam 13 = .ok (.aload_n 0, 1) := by decide +kernel
theorem dX4_beam_14 : decode cX4_beam 14 = .ok (.bipush 105, 2) := by decide +kernel
theorem dX4_beam_16 : decode cX4_beam 16 = .ok (.invokevirtual 153, 3) := by decide +kernel
theorem dX4_beam_19 : decode cX4_beam 19 = .ok (.ifCond .eq 7, 3) := by decide +kernel
theorem dX4_beam_22 : decode cX4_beam 22 = .ok (.iconst 1, 1) := by decide +kernel
theorem dX4_beam_23 : decode cX4_beam 23 = .ok (.goto 18, 3) := by decide +kernel
theorem dX4_beam_26 : decode cX4_beam 26 = .ok (.aload_n 0, 1) := by decide +kernel
theorem dX4_beam_27 : decode cX4_beam 27 = .ok (.bipush 98, 2) := by decide +kernel
theorem dX4_beam_29 : decode cX4_beam 29 = .ok (.invokevirtual 153, 3) := by decide +kernel
theorem dX4_beam_32 : decode cX4_beam 32 = .ok (.ifCond .eq 7, 3) := by decide +kernel
theorem dX4_beam_35 : decode cX4_beam 35 = .ok (.iconst 2, 1) := by decide +kernel
theorem dX4_beam_36 : decode cX4_beam 36 = .ok (.goto 5, 3) := by decide +kernel
theorem dX4_beam_39 : decode cX4_beam 39 = .ok (.bipush (-6), 2) := by decide +kernel
theorem dX4_beam_41 : decode cX4_beam 41 = .ok (.ireturn, 1) := by decide +kernel
set_option maxRecDepth 20000 in
theorem ggX4_readsTicks_X4_isHere : GoodIn wsX4_readsTicks wsX4_isHere := goodIn_r _ [8, 2, 9, 1, 10, 11, 7, 12, 13, 14, 15, 16, 17, 18, 19, 20, 21, 22] (by decide +kernel) (by decide +kernel)
set_option maxRecDepth 20000 in
theorem gX4_readsTicks_X4_isHere : GoodIn wsX4_readsTicks (wsV RX4 150 RX4 yX4_isHere wsX4_isHere) := goodIn_app (goodIn_of _ (by decide +kernel)) ggX4_readsTicks_X4_isHere
theorem dX4_readsTicks_0 : decode cX4_readsTicks 0 = .ok (.aload_n 0, 1) := by decide +kernel
theorem dX4_readsTicks_1 : decode cX4_readsTicks 1 = .ok (.bipush 49, 2) := by decide +kernel
theorem dX4_readsTicks_3 : decode cX4_readsTicks 3 = .ok (.bipush 57, 2) := by decide +kernel
theorem dX4_readsTicks_5 : decode cX4_readsTicks 5 = .ok (.invokevirtual 150, 3) := by decide +kernel
theorem dX4_readsTicks_8 : decode cX4_readsTicks 8 = .ok (.ifCond .ne 5, 3) := by decide +kernel
theorem dX4_readsTicks_11 : decode cX4_readsTicks 11 = .ok (.iconst 0, 1) := by decide +kernel
theorem dX4_readsTicks_12 : decode cX4_readsTicks 12 = .ok (.ireturn, 1) := by decide +kernel
theorem dX4_readsTicks_13 : decode cX4_readsTicks 13 = .ok (.aload_n 0, 1) := by decide +kernel
theorem dX4_readsTicks_14 : decode cX4_readsTicks 14 = .ok (.aload_n 0, 1) := by decide +kernel
theorem dX4_readsTicks_15 : decode cX4_readsTicks 15 = .ok (.getfield 25, 3) := by decide +kernel
theorem dX4_readsTicks_18 : decode cX4_readsTicks 18 = .ok (.aload_n 0, 1) := by decide +kernel
theorem dX4_readsTicks_19 : decode cX4_readsTicks 19 = .ok (.getfield 147, 3) := by decide +kernel
theorem dX4_readsTicks_22 : decode cX4_readsTicks 22 = .ok (.iaload, 1) := by decide +kernel
theorem dX4_readsTicks_23 : decode cX4_readsTicks 23 = .ok (.bipush 48, 2) := by decide +kernel
theorem dX4_readsTicks_25 : decode cX4_readsTicks 25 = .ok (.isub, 1) := by decide +kernel
theorem dX4_readsTicks_26 : decode cX4_readsTicks 26 = .ok (.putfield 156, 3) := by decide +kernel
theorem dX4_readsTicks_29 : decode cX4_readsTicks 29 = .ok (.aload_n 0, 1) := by decide +kernel
theorem dX4_readsTicks_30 : decode cX4_readsTicks 30 = .ok (.dup, 1) := by decide +kernel
theorem dX4_readsTicks_31 : decode cX4_readsTicks 31 = .ok (.getfield 147, 3) := by decide +kernel
theorem dX4_readsTicks_34 : decode cX4_readsTicks 34 = .ok (.iconst 1, 1) := by decide +kernel
theorem dX4_readsTicks_35 : decode cX4_readsTicks 35 = .ok (.iadd, 1) := by decide +kernel
theorem dX4_readsTicks_36 : decode cX4_readsTicks 36 = .ok (.putfield 147, 3) := by decide +kernel
theorem dX4_readsTicks_39 : decode cX4_readsTicks 39 = .ok (.aload_n 0, 1) := by decide +kernel
theorem dX4_readsTicks_40 : decode cX4_readsTicks 40 = .ok (.bipush 48, 2) := by decide +kernel
theorem dX4_readsTicks_42 : decode cX4_readsTicks 42 = .ok (.bipush 57, 2) := by decide +kernel
theorem dX4_readsTicks_44 : decode cX4_readsTicks 44 = .ok (.invokevirtual 150, 3) := by decide +kernel
theorem dX4_readsTicks_47 : decode cX4_readsTicks 47 = .ok (.ifCond .eq 37, 3) := by decide +kernel
theorem dX4_readsTicks_50 : decode cX4_readsTicks 50 = .ok (.aload_n 0, 1) := by decide +kernel
theorem dX4_readsTicks_51 : decode cX4_readsTicks 51 = .ok (.bipush 10, 2) := by decide +kernel
theorem dX4_readsTicks_53 : decode cX4_readsTicks 53 = .ok (.aload_n 0, 1) := by decide +kernel
theorem dX4_readsTicks_54 : decode cX4_readsTicks 54 = .ok (.getfield 156, 3) := by decide +kernel
theorem dX4_readsTicks_57 : decode cX4_readsTicks 57 = .ok (.imul, 1) := by decide +kernel
theorem dX4_readsTicks_58 : decode cX4_readsTicks 58 = .ok (.aload_n 0, 1) := by decide +kernel
theorem dX4_readsTicks_59 : decode cX4_readsTicks 59 = .ok (.getfield 25, 3) := by decide +kernel
theorem dX4_readsTicks_62 : decode cX4_readsTicks 62 = .ok (.aload_n 0, 1) := by decide +kernel
theorem dX4_readsTicks_63 : decode cX4_readsTicks 63 = .ok (.getfield 147, 3) := by decide +kernel
theorem dX4_readsTicks_66 : decode cX4_readsTicks 66 = .ok (.iaload, 1) := by decide +kernel
theorem dX4_readsTicks_67 : decode cX4_readsTicks 67 = .ok (.iadd, 1) := by decide +kernel
theorem dX4_readsTicks_68 : decode cX4_readsTicks 68 = .ok (.bipush 48, 2) := by decide +kernel
theorem dX4_readsTicks_70 : decode cX4_readsTicks 70 = .ok (.isub, 1) := by decide +kernel
theorem dX4_readsTicks_71 : decode cX4_readsTicks 71 = .ok (.putfield 156, 3) := by decide +kernel
theorem dX4_readsTicks_74 : decode cX4_readsTicks 74 = .ok (.aload_n 0, 1) := by decide +kernel
theorem dX4_readsTicks_75 : decode cX4_readsTicks 75 = .ok (.dup, 1) := by decide +kernel
theorem dX4_readsTicks_76 : decode cX4_readsTicks 76 = .ok (.getfield 147, 3) := by decide +kernel
theorem dX4_readsTicks_79 : decode cX4_readsTicks 79 = .ok (.iconst 1, 1) := by decide +kernel
theorem dX4_readsTicks_80 : decode cX4_readsTicks 80 = .ok (.iadd, 1) := by decide +kernel
theorem dX4_readsTicks_81 : decode cX4_readsTicks 81 = .ok (.putfield 147, 3) := by decide +kernel
theorem dX4_readsTicks_84 : decode cX4_readsTicks 84 = .ok (.iconst 1, 1) := by decide +kernel
theorem dX4_readsTicks_85 : decode cX4_readsTicks 85 = .ok (.ireturn, 1) := by decide +kernel
set_option maxRecDepth 20000 in
theorem ggX4_readsEvent_X4_takesOne : GoodIn wsX4_readsEvent wsX4_takesOne := goodIn_r _ [6, 1, 7, 8, 9, 5, 10, 11, 12, 13, 14, 15, 25, 26, 27, 28, 29, 30, 31, 32, 33, 34] (by decide +kernel) (by decide +kernel)
set_option maxRecDepth 20000 in
theorem gX4_readsEvent_X4_takesOne : GoodIn wsX4_readsEvent (wsV RX4 153 RX4 yX4_takesOne wsX4_takesOne) := goodIn_app (goodIn_of _ (by decide +kernel)) ggX4_readsEvent_X4_takesOne
set_option maxRecDepth 20000 in
theorem ggX4_readsEvent_X4_readsTicks : GoodIn wsX4_readsEvent wsX4_readsTicks := goodIn_r _ [19, 12, 1, 20, 7, 8, 9, 5, 10, 11, 13, 14, 15, 25, 26, 27, 28, 29, 30, 31, 32, 33, 34] (by decide +kernel) (by decide +kernel)
set_option maxRecDepth 20000 in
theorem gX4_readsEvent_X4_readsTicks : GoodIn wsX4_readsEvent (wsV RX4 159 RX4 yX4_readsTicks wsX4_readsTicks) := goodIn_app (goodIn_of _ (by decide +kernel)) ggX4_readsEvent_X4_readsTicks
set_option maxRecDepth 20000 in
theorem ggX4_readsEvent_X4_isHere : GoodIn wsX4_readsEvent wsX4_isHere := goodIn_r _ [10, 1, 11, 12, 13, 14, 5, 15, 25, 26, 27, 28, 29, 30, 31, 32, 33, 34] (by decide +kernel) (by decide +kernel)
set_option maxRecDepth 20000 in
theorem gX4_readsEvent_X4_isHere : GoodIn wsX4_readsEvent (wsV RX4 150 RX4 yX4_isHere wsX4_isHere) := goodIn_app (goodIn_of _ (by decide +kernel)) ggX4_readsEvent_X4_isHere
set_option maxRecDepth 20000 in
theorem ggX4_readsEvent_X4_beam : GoodIn wsX4_readsEvent wsX4_beam := goodIn_r _ [24, 2, 3, 4, 5, 6, 1, 7, 8, 9, 10, 11, 12, 13, 14, 15, 25, 26, 27, 28, 29, 30, 31, 32, 33, 34] (by decide +kernel) (by decide +kernel)
set_option maxRecDepth 20000 in
theorem gX4_readsEvent_X4_beam : GoodIn wsX4_readsEvent (wsV RX4 163 RX4 yX4_beam wsX4_beam) := goodIn_app (goodIn_of _ (by decide +kernel)) ggX4_readsEvent_X4_beam
theorem dX4_readsEvent_0 : decode cX4_readsEvent 0 = .ok (.aload_n 0, 1) := by decide +kernel
theorem dX4_readsEvent_1 : decode cX4_readsEvent 1 = .ok (.bipush 46, 2) := by decide +kernel
theorem dX4_readsEvent_3 : decode cX4_readsEvent 3 = .ok (.invokevirtual 153, 3) := by decide +kernel
theorem dX4_readsEvent_6 : decode cX4_readsEvent 6 = .ok (.ifCond .eq 8, 3) := by decide +kernel
theorem dX4_readsEvent_9 : decode cX4_readsEvent 9 = .ok (.aload_n 0, 1) := by decide +kernel
theorem dX4_readsEvent_10 : decode cX4_readsEvent 10 = .ok (.invokevirtual 159, 3) := by decide +kernel
theorem dX4_readsEvent_13 : decode cX4_readsEvent 13 = .ok (.ireturn, 1) := by decide +kernel
theorem dX4_readsEvent_14 : decode cX4_readsEvent 14 = .ok (.aload_n 0, 1) := by decide +kernel
theorem dX4_readsEvent_15 : decode cX4_readsEvent 15 = .ok (.bipush 48, 2) := by decide +kernel
theorem dX4_readsEvent_17 : decode cX4_readsEvent 17 = .ok (.bipush 53, 2) := by decide +kernel
theorem dX4_readsEvent_19 : decode cX4_readsEvent 19 = .ok (.invokevirtual 150, 3) := by decide +kernel
theorem dX4_readsEvent_22 : decode cX4_readsEvent 22 = .ok (.ifCond .ne 5, 3) := by decide +kernel
theorem dX4_readsEvent_25 : decode cX4_readsEvent 25 = .ok (.iconst 0, 1) := by decide +kernel
theorem dX4_readsEvent_26 : decode cX4_readsEvent 26 = .ok (.ireturn, 1) := by decide +kernel
theorem dX4_readsEvent_27 : decode cX4_readsEvent 27 = .ok (.aload_n 0, 1) := by decide +kernel
theorem dX4_readsEvent_28 : decode cX4_readsEvent 28 = .ok (.dup, 1) := by decide +kernel
theorem dX4_readsEvent_29 : decode cX4_readsEvent 29 = .ok (.getfield 147, 3) := by decide +kernel
theorem dX4_readsEvent_32 : decode cX4_readsEvent 32 = .ok (.iconst 1, 1) := by decide +kernel
theorem dX4_readsEvent_33 : decode cX4_readsEvent 33 = .ok (.iadd, 1) := by decide +kernel
theorem dX4_readsEvent_34 : decode cX4_readsEvent 34 = .ok (.putfield 147, 3) := by decide +kernel
theorem dX4_readsEvent_37 : decode cX4_readsEvent 37 = .ok (.aload_n 0, 1) := by decide +kernel
theorem dX4_readsEvent_38 : decode cX4_readsEvent 38 = .ok (.invokevirtual 163, 3) := by decide +kernel
theorem dX4_readsEvent_41 : decode cX4_readsEvent 41 = .ok (.bipush (-6), 2) := by decide +kernel
theorem dX4_readsEvent_43 : decode cX4_readsEvent 43 = .ok (.if_icmp .ne 5, 3) := by decide +kernel
theorem dX4_readsEvent_46 : decode cX4_readsEvent 46 = .ok (.iconst 0, 1) := by decide +kernel
theorem dX4_readsEvent_47 : decode cX4_readsEvent 47 = .ok (.ireturn, 1) := by decide +kernel
theorem dX4_readsEvent_48 : decode cX4_readsEvent 48 = .ok (.aload_n 0, 1) := by decide +kernel
theorem dX4_readsEvent_49 : decode cX4_readsEvent 49 = .ok (.bipush 111, 2) := by decide +kernel
theorem dX4_readsEvent_51 : decode cX4_readsEvent 51 = .ok (.bipush 111, 2) := by decide +kernel
theorem dX4_readsEvent_53 : decode cX4_readsEvent 53 = .ok (.invokevirtual 150, 3) := by decide +kernel
theorem dX4_readsEvent_56 : decode cX4_readsEvent 56 = .ok (.ifCond .ne 25, 3) := by decide +kernel
theorem dX4_readsEvent_59 : decode cX4_readsEvent 59 = .ok (.aload_n 0, 1) := by decide +kernel
theorem dX4_readsEvent_60 : decode cX4_readsEvent 60 = .ok (.bipush 105, 2) := by decide +kernel
theorem dX4_readsEvent_62 : decode cX4_readsEvent 62 = .ok (.bipush 105, 2) := by decide +kernel
theorem dX4_readsEvent_64 : decode cX4_readsEvent 64 = .ok (.invokevirtual 150, 3) := by decide +kernel
theorem dX4_readsEvent_67 : decode cX4_readsEvent 67 = .ok (.ifCond .ne 14, 3) := by decide +kernel
theorem dX4_readsEvent_70 : decode cX4_readsEvent 70 = .ok (.aload_n 0, 1) := by decide +kernel
theorem dX4_readsEvent_71 : decode cX4_readsEvent 71 = .ok (.bipush 98, 2) := by decide +kernel
theorem dX4_readsEvent_73 : decode cX4_readsEvent 73 = .ok (.bipush 98, 2) := by decide +kernel
theorem dX4_readsEvent_75 : decode cX4_readsEvent 75 = .ok (.invokevirtual 150, 3) := by decide +kernel
theorem dX4_readsEvent_78 : decode cX4_readsEvent 78 = .ok (.ifCond .eq 16, 3) := by decide +kernel
theorem dX4_readsEvent_81 : decode cX4_readsEvent 81 = .ok (.aload_n 0, 1) := by decide +kernel
theorem dX4_readsEvent_82 : decode cX4_readsEvent 82 = .ok (.dup, 1) := by decide +kernel
theorem dX4_readsEvent_83 : decode cX4_readsEvent 83 = .ok (.getfield 147, 3) := by decide +kernel
theorem dX4_readsEvent_86 : decode cX4_readsEvent 86 = .ok (.iconst 1, 1) := by decide +kernel
theorem dX4_readsEvent_87 : decode cX4_readsEvent 87 = .ok (.iadd, 1) := by decide +kernel
theorem dX4_readsEvent_88 : decode cX4_readsEvent 88 = .ok (.putfield 147, 3) := by decide +kernel
theorem dX4_readsEvent_91 : decode cX4_readsEvent 91 = .ok (.goto (-43), 3) := by decide +kernel
theorem dX4_readsEvent_94 : decode cX4_readsEvent 94 = .ok (.iconst 1, 1) := by decide +kernel
theorem dX4_readsEvent_95 : decode cX4_readsEvent 95 = .ok (.ireturn, 1) := by decide +kernel
set_option maxRecDepth 20000 in
theorem ggX4_fault_X4_readsEvent : GoodIn wsX4_fault wsX4_readsEvent := goodIn_r _ [7, 1, 8, 9, 10, 6, 11, 12, 13, 14, 15, 2, 16, 17, 18, 19, 20, 21, 22, 23, 24, 25, 26, 27, 28, 29, 30, 31, 32, 33, 34, 35, 36, 37, 38] (by decide +kernel) (by decide +kernel)
set_option maxRecDepth 20000 in
theorem gX4_fault_X4_readsEvent : GoodIn wsX4_fault (wsV RX4 166 RX4 yX4_readsEvent wsX4_readsEvent) := goodIn_app (goodIn_of _ (by decide +kernel)) ggX4_fault_X4_readsEvent
set_option maxRecDepth 20000 in
theorem ggX4_fault_X4_takesOne : GoodIn wsX4_fault wsX4_takesOne := goodIn_r _ [11, 1, 12, 13, 14, 6, 15, 2, 16, 17, 18, 19, 29, 30, 31, 32, 33, 34, 35, 36, 37, 38] (by decide +kernel) (by decide +kernel)
set_option maxRecDepth 20000 in
theorem gX4_fault_X4_takesOne : GoodIn wsX4_fault (wsV RX4 153 RX4 yX4_takesOne wsX4_takesOne) := goodIn_app (goodIn_of _ (by decide +kernel)) ggX4_fault_X4_takesOne
theorem dX4_fault_0 : decode cX4_fault 0 = .ok (.aload_n 0, 1) := by decide +kernel
theorem dX4_fault_1 : decode cX4_fault 1 = .ok (.iconst 0, 1) := by decide +kernel
theorem dX4_fault_2 : decode cX4_fault 2 = .ok (.putfield 147, 3) := by decide +kernel
theorem dX4_fault_5 : decode cX4_fault 5 = .ok (.iconst 1, 1) := by decide +kernel
theorem dX4_fault_6 : decode cX4_fault 6 = .ok (.istore_n 1, 1) := by decide +kernel
theorem dX4_fault_7 : decode cX4_fault 7 = .ok (.iload_n 1, 1) := by decide +kernel
theorem dX4_fault_8 : decode cX4_fault 8 = .ok (.ifCond .eq 25, 3) := by decide +kernel
theorem dX4_fault_11 : decode cX4_fault 11 = .ok (.aload_n 0, 1) := by decide +kernel
theorem dX4_fault_12 : decode cX4_fault 12 = .ok (.invokevirtual 166, 3) := by decide +kernel
theorem dX4_fault_15 : decode cX4_fault 15 = .ok (.ifCond .ne 8, 3) := by decide +kernel
theorem dX4_fault_18 : decode cX4_fault 18 = .ok (.aload_n 0, 1) := by decide +kernel
theorem dX4_fault_19 : decode cX4_fault 19 = .ok (.getfield 147, 3) := by decide +kernel
theorem dX4_fault_22 : decode cX4_fault 22 = .ok (.ireturn, 1) := by decide +kernel
theorem dX4_fault_23 : decode cX4_fault 23 = .ok (.aload_n 0, 1) := by decide +kernel
theorem dX4_fault_24 : decode cX4_fault 24 = .ok (.bipush 59, 2) := by decide +kernel
theorem dX4_fault_26 : decode cX4_fault 26 = .ok (.invokevirtual 153, 3) := by decide +kernel
theorem dX4_fault_29 : decode cX4_fault 29 = .ok (.istore_n 1, 1) := by decide +kernel
theorem dX4_fault_30 : decode cX4_fault 30 = .ok (.goto (-23), 3) := by decide +kernel
theorem dX4_fault_33 : decode cX4_fault 33 = .ok (.aload_n 0, 1) := by decide +kernel
theorem dX4_fault_34 : decode cX4_fault 34 = .ok (.getfield 147, 3) := by decide +kernel
theorem dX4_fault_37 : decode cX4_fault 37 = .ok (.aload_n 0, 1) := by decide +kernel
theorem dX4_fault_38 : decode cX4_fault 38 = .ok (.getfield 119, 3) := by decide +kernel
theorem dX4_fault_41 : decode cX4_fault 41 = .ok (.if_icmp .ne 8, 3) := by decide +kernel
theorem dX4_fault_44 : decode cX4_fault 44 = .ok (.bipush (-6), 2) := by decide +kernel
theorem dX4_fault_46 : decode cX4_fault 46 = .ok (.goto 7, 3) := by decide +kernel
theorem dX4_fault_49 : decode cX4_fault 49 = .ok (.aload_n 0, 1) := by decide +kernel
theorem dX4_fault_50 : decode cX4_fault 50 = .ok (.getfield 147, 3) := by decide +kernel
theorem dX4_fault_53 : decode cX4_fault 53 = .ok (.ireturn, 1) := by decide +kernel
set_option maxRecDepth 20000 in
theorem ggX4_reads_X4_takesOne : GoodIn wsX4_reads wsX4_takesOne := goodIn_r _ [10, 1, 11, 12, 13, 9, 14, 15, 5, 16, 17, 18, 70, 71, 72, 73, 74, 75, 76, 77, 78, 79] (by decide +kernel) (by decide +kernel)
set_option maxRecDepth 20000 in
theorem gX4_reads_X4_takesOne : GoodIn wsX4_reads (wsV RX4 153 RX4 yX4_takesOne wsX4_takesOne) := goodIn_app (goodIn_of _ (by decide +kernel)) ggX4_reads_X4_takesOne
set_option maxRecDepth 20000 in
theorem ggX4_reads_X4_readsTicks : GoodIn wsX4_reads wsX4_readsTicks := goodIn_r _ [22, 5, 1, 3, 11, 12, 13, 9, 14, 15, 16, 17, 18, 70, 71, 72, 73, 74, 75, 76, 77, 78, 79] (by decide +kernel) (by decide +kernel)
set_option maxRecDepth 20000 in
theorem gX4_reads_X4_readsTicks : GoodIn wsX4_reads (wsV RX4 159 RX4 yX4_readsTicks wsX4_readsTicks) := goodIn_app (goodIn_of _ (by decide +kernel)) ggX4_reads_X4_readsTicks
set_option maxRecDepth 20000 in
theorem ggX4_reads_X4_beam : GoodIn wsX4_reads wsX4_beam := goodIn_r _ [26, 6, 7, 8, 9, 10, 1, 11, 12, 13, 14, 15, 5, 16, 17, 18, 70, 71, 72, 73, 74, 75, 76, 77, 78, 79] (by decide +kernel) (by decide +kernel)
set_option maxRecDepth 20000 in
theorem gX4_reads_X4_beam : GoodIn wsX4_reads (wsV RX4 163 RX4 yX4_beam wsX4_beam) := goodIn_app (goodIn_of _ (by decide +kernel)) ggX4_reads_X4_beam
set_option maxRecDepth 20000 in
theorem ggX4_reads_X4_happens : GoodIn wsX4_reads wsX4_happens := goodIn_r _ [30, 2, 31, 32, 33, 9, 34, 35, 36, 37, 38, 39, 40, 41, 42, 43, 44, 45, 46, 47, 48, 49, 50, 51, 52, 53, 54, 55, 56, 57, 58, 59, 60, 61, 62, 63, 64, 65, 66, 67, 68, 69, 70, 71, 72, 73, 74, 75, 76, 77, 78, 79] (by decide +kernel) (by decide +kernel)
set_option maxRecDepth 20000 in
theorem gX4_reads_X4_happens : GoodIn wsX4_reads (wsV RX4 90 RX4 yX4_happens wsX4_happens) := goodIn_app (goodIn_of _ (by decide +kernel)) ggX4_reads_X4_happens
theorem dX4_reads_0 : decode cX4_reads 0 = .ok (.aload_n 0, 1) := by decide +kernel
theorem dX4_reads_1 : decode cX4_reads 1 = .ok (.iconst 0, 1) := by decide +kernel
theorem dX4_reads_2 : decode cX4_reads 2 = .ok (.putfield 147, 3) := by decide +kernel
theorem dX4_reads_5 : decode cX4_reads 5 = .ok (.iconst 0, 1) := by decide +kernel
theorem dX4_reads_6 : decode cX4_reads 6 = .ok (.istore_n 1, 1) := by decide +kernel
theorem dX4_reads_7 : decode cX4_reads 7 = .ok (.iconst 1, 1) := by decide +kernel
theorem dX4_reads_8 : decode cX4_reads 8 = .ok (.istore_n 2, 1) := by decide +kernel
theorem dX4_reads_9 : decode cX4_reads 9 = .ok (.iload_n 2, 1) := by decide +kernel
theorem dX4_reads_10 : decode cX4_reads 10 = .ok (.ifCond .eq 118, 3) := by decide +kernel
theorem dX4_reads_13 : decode cX4_reads 13 = .ok (.aload_n 0, 1) := by decide +kernel
theorem dX4_reads_14 : decode cX4_reads 14 = .ok (.bipush 46, 2) := by decide +kernel
theorem dX4_reads_16 : decode cX4_reads 16 = .ok (.invokevirtual 153, 3) := by decide +kernel
theorem dX4_reads_19 : decode cX4_reads 19 = .ok (.ifCond .eq 44, 3) := by decide +kernel
theorem dX4_reads_22 : decode cX4_reads 22 = .ok (.aload_n 0, 1) := by decide +kernel
theorem dX4_reads_23 : decode cX4_reads 23 = .ok (.invokevirtual 159, 3) := by decide +kernel
theorem dX4_reads_26 : decode cX4_reads 26 = .ok (.istore_n 3, 1) := by decide +kernel
theorem dX4_reads_27 : decode cX4_reads 27 = .ok (.aload_n 0, 1) := by decide +kernel
theorem dX4_reads_28 : decode cX4_reads 28 = .ok (.getfield 7, 3) := by decide +kernel
theorem dX4_reads_31 : decode cX4_reads 31 = .ok (.iconst 3, 1) := by decide +kernel
theorem dX4_reads_32 : decode cX4_reads 32 = .ok (.dup2, 1) := by decide +kernel
theorem dX4_reads_33 : decode cX4_reads 33 = .ok (.iaload, 1) := by decide +kernel
theorem dX4_reads_34 : decode cX4_reads 34 = .ok (.aload_n 0, 1) := by decide +kernel
theorem dX4_reads_35 : decode cX4_reads 35 = .ok (.getfield 7, 3) := by decide +kernel
theorem dX4_reads_38 : decode cX4_reads 38 = .ok (.iconst 3, 1) := by decide +kernel
theorem dX4_reads_39 : decode cX4_reads 39 = .ok (.iaload, 1) := by decide +kernel
theorem dX4_reads_40 : decode cX4_reads 40 = .ok (.aload_n 0, 1) := by decide +kernel
theorem dX4_reads_41 : decode cX4_reads 41 = .ok (.getfield 156, 3) := by decide +kernel
theorem dX4_reads_44 : decode cX4_reads 44 = .ok (.iadd, 1) := by decide +kernel
theorem dX4_reads_45 : decode cX4_reads 45 = .ok (.ldc 95, 2) := by decide +kernel
theorem dX4_reads_47 : decode cX4_reads 47 = .ok (.if_icmp .le 7, 3) := by decide +kernel
theorem dX4_reads_50 : decode cX4_reads 50 = .ok (.iconst 0, 1) := by decide +kernel
theorem dX4_reads_51 : decode cX4_reads 51 = .ok (.goto 7, 3) := by decide +kernel
theorem dX4_reads_54 : decode cX4_reads 54 = .ok (.aload_n 0, 1) := by decide +kernel
theorem dX4_reads_55 : decode cX4_reads 55 = .ok (.getfield 156, 3) := by decide +kernel
theorem dX4_reads_58 : decode cX4_reads 58 = .ok (.iadd, 1) := by decide +kernel
theorem dX4_reads_59 : decode cX4_reads 59 = .ok (.iastore, 1) := by decide +kernel
theorem dX4_reads_60 : decode cX4_reads 60 = .ok (.goto 58, 3) := by decide +kernel
theorem dX4_reads_63 : decode cX4_reads 63 = .ok (.aload_n 0, 1) := by decide +kernel
theorem dX4_reads_64 : decode cX4_reads 64 = .ok (.getfield 25, 3) := by decide +kernel
theorem dX4_reads_67 : decode cX4_reads 67 = .ok (.aload_n 0, 1) := by decide +kernel
theorem dX4_reads_68 : decode cX4_reads 68 = .ok (.getfield 147, 3) := by decide +kernel
theorem dX4_reads_71 : decode cX4_reads 71 = .ok (.iaload, 1) := by decide +kernel
theorem dX4_reads_72 : decode cX4_reads 72 = .ok (.bipush 48, 2) := by decide +kernel
theorem dX4_reads_74 : decode cX4_reads 74 = .ok (.isub, 1) := by decide +kernel
theorem dX4_reads_75 : decode cX4_reads 75 = .ok (.istore_n 3, 1) := by decide +kernel
theorem dX4_reads_76 : decode cX4_reads 76 = .ok (.aload_n 0, 1) := by decide +kernel
theorem dX4_reads_77 : decode cX4_reads 77 = .ok (.dup, 1) := by decide +kernel
theorem dX4_reads_78 : decode cX4_reads 78 = .ok (.getfield 147, 3) := by decide +kernel
theorem dX4_reads_81 : decode cX4_reads 81 = .ok (.iconst 1, 1) := by decide +kernel
theorem dX4_reads_82 : decode cX4_reads 82 = .ok (.iadd, 1) := by decide +kernel
theorem dX4_reads_83 : decode cX4_reads 83 = .ok (.putfield 147, 3) := by decide +kernel
theorem dX4_reads_86 : decode cX4_reads 86 = .ok (.aload_n 0, 1) := by decide +kernel
theorem dX4_reads_87 : decode cX4_reads 87 = .ok (.invokevirtual 163, 3) := by decide +kernel
theorem dX4_reads_90 : decode cX4_reads 90 = .ok (.istore 4, 2) := by decide +kernel
theorem dX4_reads_92 : decode cX4_reads 92 = .ok (.iload 4, 2) := by decide +kernel
theorem dX4_reads_94 : decode cX4_reads 94 = .ok (.bipush (-6), 2) := by decide +kernel
theorem dX4_reads_96 : decode cX4_reads 96 = .ok (.if_icmp .eq 22, 3) := by decide +kernel
theorem dX4_reads_99 : decode cX4_reads 99 = .ok (.iload_n 1, 1) := by decide +kernel
theorem dX4_reads_100 : decode cX4_reads 100 = .ok (.aload_n 0, 1) := by decide +kernel
theorem dX4_reads_101 : decode cX4_reads 101 = .ok (.iload_n 3, 1) := by decide +kernel
theorem dX4_reads_102 : decode cX4_reads 102 = .ok (.iload 4, 2) := by decide +kernel
theorem dX4_reads_104 : decode cX4_reads 104 = .ok (.invokevirtual 90, 3) := by decide +kernel
theorem dX4_reads_107 : decode cX4_reads 107 = .ok (.iadd, 1) := by decide +kernel
theorem dX4_reads_108 : decode cX4_reads 108 = .ok (.istore_n 1, 1) := by decide +kernel
theorem dX4_reads_109 : decode cX4_reads 109 = .ok (.aload_n 0, 1) := by decide +kernel
theorem dX4_reads_110 : decode cX4_reads 110 = .ok (.invokevirtual 163, 3) := by decide +kernel
theorem dX4_reads_113 : decode cX4_reads 113 = .ok (.istore 4, 2) := by decide +kernel
theorem dX4_reads_115 : decode cX4_reads 115 = .ok (.goto (-23), 3) := by decide +kernel
theorem dX4_reads_118 : decode cX4_reads 118 = .ok (.aload_n 0, 1) := by decide +kernel
theorem dX4_reads_119 : decode cX4_reads 119 = .ok (.bipush 59, 2) := by decide +kernel
theorem dX4_reads_121 : decode cX4_reads 121 = .ok (.invokevirtual 153, 3) := by decide +kernel
theorem dX4_reads_124 : decode cX4_reads 124 = .ok (.istore_n 2, 1) := by decide +kernel
theorem dX4_reads_125 : decode cX4_reads 125 = .ok (.goto (-116), 3) := by decide +kernel
theorem dX4_reads_128 : decode cX4_reads 128 = .ok (.iload_n 1, 1) := by decide +kernel
theorem dX4_reads_129 : decode cX4_reads 129 = .ok (.ireturn, 1) := by decide +kernel
set_option maxRecDepth 20000 in
theorem ggX4_read_X4_fault : GoodIn wsX4_read wsX4_fault := goodIn_r _ [6, 7, 1, 8, 9, 10, 5, 11, 12, 13, 14, 15, 16, 17, 18, 19, 20, 21, 22, 23, 24, 25, 26, 27, 28, 29, 30, 31, 32, 88, 89, 90, 91, 92, 93, 94, 95, 96, 97] (by decide +kernel) (by decide +kernel)
set_option maxRecDepth 20000 in
theorem gX4_read_X4_fault : GoodIn wsX4_read (wsV RX4 125 RX4 yX4_fault wsX4_fault) := goodIn_app (goodIn_of _ (by decide +kernel)) ggX4_read_X4_fault
set_option maxRecDepth 20000 in
theorem ggX4_read_X4_changes : GoodIn wsX4_read wsX4_changes := goodIn_r _ [36, 37, 38, 39, 88, 89, 90, 91, 92, 93, 94, 95, 96, 97] (by decide +kernel) (by decide +kernel)
set_option maxRecDepth 20000 in
theorem gX4_read_X4_changes : GoodIn wsX4_read (wsV RX4 82 RX4 yX4_changes wsX4_changes) := goodIn_app (goodIn_of _ (by decide +kernel)) ggX4_read_X4_changes
set_option maxRecDepth 20000 in
theorem ggX4_read_X4_reads : GoodIn wsX4_read wsX4_reads := goodIn_r _ [43, 7, 39, 28, 44, 20, 12, 13, 14, 5, 15, 16, 17, 18, 19, 1, 21, 22, 23, 24, 25, 26, 27, 29, 30, 31, 32, 45, 46, 47, 48, 49, 50, 51, 52, 53, 54, 55, 56, 57, 58, 59, 60, 61, 62, 63, 64, 65, 66, 67, 68, 69, 70, 71, 72, 73, 74, 75, 76, 77, 78, 79, 80, 81, 82, 83, 84, 85, 86, 87, 88, 89, 90, 91, 92, 93, 94, 95, 96, 97] (by decide +kernel) (by decide +kernel)
set_option maxRecDepth 20000 in
theorem gX4_read_X4_reads : GoodIn wsX4_read (wsV RX4 131 RX4 yX4_reads wsX4_reads) := goodIn_app (goodIn_of _ (by decide +kernel)) ggX4_read_X4_reads
theorem dX4_read_0 : decode cX4_read 0 = .ok (.aload_n 0, 1) := by decide +kernel
theorem dX4_read_1 : decode cX4_read 1 = .ok (.invokevirtual 125, 3) := by decide +kernel
theorem dX4_read_4 : decode cX4_read 4 = .ok (.bipush (-6), 2) := by decide +kernel
theorem dX4_read_6 : decode cX4_read 6 = .ok (.if_icmp .eq 6, 3) := by decide +kernel
theorem dX4_read_9 : decode cX4_read 9 = .ok (.bipush (-3), 2) := by decide +kernel
theorem dX4_read_11 : decode cX4_read 11 = .ok (.ireturn, 1) := by decide +kernel
theorem dX4_read_12 : decode cX4_read 12 = .ok (.aload_n 0, 1) := by decide +kernel
theorem dX4_read_13 : decode cX4_read 13 = .ok (.invokevirtual 82, 3) := by decide +kernel
theorem dX4_read_16 : decode cX4_read 16 = .ok (.aload_n 0, 1) := by decide +kernel
theorem dX4_read_17 : decode cX4_read 17 = .ok (.invokevirtual 131, 3) := by decide +kernel
theorem dX4_read_20 : decode cX4_read 20 = .ok (.istore_n 1, 1) := by decide +kernel
theorem dX4_read_21 : decode cX4_read 21 = .ok (.aload_n 0, 1) := by decide +kernel
theorem dX4_read_22 : decode cX4_read 22 = .ok (.iconst 0, 1) := by decide +kernel
theorem dX4_read_23 : decode cX4_read 23 = .ok (.putfield 119, 3) := by decide +kernel
theorem dX4_read_26 : decode cX4_read 26 = .ok (.iload_n 1, 1) := by decide +kernel
theorem dX4_read_27 : decode cX4_read 27 = .ok (.ireturn, 1) := by decide +kernel
theorem dX4_undo_0 : decode cX4_undo 0 = .ok (.aload_n 0, 1) := by decide +kernel
theorem dX4_undo_1 : decode cX4_undo 1 = .ok (.getfield 32, 3) := by decide +kernel
theorem dX4_undo_4 : decode cX4_undo 4 = .ok (.ifCond .ne 6, 3) := by decide +kernel
theorem dX4_undo_7 : decode cX4_undo 7 = .ok (.bipush (-5), 2) := by decide +kernel
theorem dX4_undo_9 : decode cX4_undo 9 = .ok (.ireturn, 1) := by decide +kernel
theorem dX4_undo_10 : decode cX4_undo 10 = .ok (.aload_n 0, 1) := by decide +kernel
theorem dX4_undo_11 : decode cX4_undo 11 = .ok (.dup, 1) := by decide +kernel
theorem dX4_undo_12 : decode cX4_undo 12 = .ok (.getfield 32, 3) := by decide +kernel
theorem dX4_undo_15 : decode cX4_undo 15 = .ok (.iconst 1, 1) := by decide +kernel
theorem dX4_undo_16 : decode cX4_undo 16 = .ok (.isub, 1) := by decide +kernel
theorem dX4_undo_17 : decode cX4_undo 17 = .ok (.putfield 32, 3) := by decide +kernel
theorem dX4_undo_20 : decode cX4_undo 20 = .ok (.iconst 0, 1) := by decide +kernel
theorem dX4_undo_21 : decode cX4_undo 21 = .ok (.istore_n 1, 1) := by decide +kernel
theorem dX4_undo_22 : decode cX4_undo 22 = .ok (.iload_n 1, 1) := by decide +kernel
theorem dX4_undo_23 : decode cX4_undo 23 = .ok (.bipush 86, 2) := by decide +kernel
theorem dX4_undo_25 : decode cX4_undo 25 = .ok (.if_icmp .ge 29, 3) := by decide +kernel
theorem dX4_undo_28 : decode cX4_undo 28 = .ok (.aload_n 0, 1) := by decide +kernel
theorem dX4_undo_29 : decode cX4_undo 29 = .ok (.getfield 7, 3) := by decide +kernel
theorem dX4_undo_32 : decode cX4_undo 32 = .ok (.iload_n 1, 1) := by decide +kernel
theorem dX4_undo_33 : decode cX4_undo 33 = .ok (.aload_n 0, 1) := by decide +kernel
theorem dX4_undo_34 : decode cX4_undo 34 = .ok (.getfield 16, 3) := by decide +kernel
theorem dX4_undo_37 : decode cX4_undo 37 = .ok (.bipush 86, 2) := by decide +kernel
theorem dX4_undo_39 : decode cX4_undo 39 = .ok (.aload_n 0, 1) := by decide +kernel
theorem dX4_undo_40 : decode cX4_undo 40 = .ok (.getfield 32, 3) := by decide +kernel
theorem dX4_undo_43 : decode cX4_undo 43 = .ok (.imul, 1) := by decide +kernel
theorem dX4_undo_44 : decode cX4_undo 44 = .ok (.iload_n 1, 1) := by decide +kernel
theorem dX4_undo_45 : decode cX4_undo 45 = .ok (.iadd, 1) := by decide +kernel
theorem dX4_undo_46 : decode cX4_undo 46 = .ok (.iaload, 1) := by decide +kernel
theorem dX4_undo_47 : decode cX4_undo 47 = .ok (.iastore, 1) := by decide +kernel
theorem dX4_undo_48 : decode cX4_undo 48 = .ok (.iinc 1 1, 3) := by decide +kernel
theorem dX4_undo_51 : decode cX4_undo 51 = .ok (.goto (-29), 3) := by decide +kernel
theorem dX4_undo_54 : decode cX4_undo 54 = .ok (.aload_n 0, 1) := by decide +kernel
theorem dX4_undo_55 : decode cX4_undo 55 = .ok (.getfield 32, 3) := by decide +kernel
theorem dX4_undo_58 : decode cX4_undo 58 = .ok (.ireturn, 1) := by decide +kernel
theorem dX4_isSlot_0 : decode cX4_isSlot 0 = .ok (.iload_n 0, 1) := by decide +kernel
theorem dX4_isSlot_1 : decode cX4_isSlot 1 = .ok (.ifCond .eq 8, 3) := by decide +kernel
theorem dX4_isSlot_4 : decode cX4_isSlot 4 = .ok (.iload_n 0, 1) := by decide +kernel
theorem dX4_isSlot_5 : decode cX4_isSlot 5 = .ok (.iconst 1, 1) := by decide +kernel
theorem dX4_isSlot_6 : decode cX4_isSlot 6 = .ok (.if_icmp .ne 7, 3) := by decide +kernel
theorem dX4_isSlot_9 : decode cX4_isSlot 9 = .ok (.iconst 1, 1) := by decide +kernel
theorem dX4_isSlot_10 : decode cX4_isSlot 10 = .ok (.goto 4, 3) := by decide +kernel
theorem dX4_isSlot_13 : decode cX4_isSlot 13 = .ok (.iconst 0, 1) := by decide +kernel
theorem dX4_isSlot_14 : decode cX4_isSlot 14 = .ok (.ireturn, 1) := by decide +kernel
set_option maxRecDepth 20000 in
theorem ggX4_save_X4_isSlot : GoodIn wsX4_save wsX4_isSlot := goodIn_r _ [7] (by decide +kernel) (by decide +kernel)
set_option maxRecDepth 20000 in
theorem gX4_save_X4_isSlot : GoodIn wsX4_save (va_wsS RX4 169 yX4_isSlot wsX4_isSlot) := goodIn_app (goodIn_of _ (by decide +kernel)) ggX4_save_X4_isSlot
theorem dX4_save_0 : decode cX4_save 0 = .ok (.iload_n 1, 1) := by decide +kernel
theorem dX4_save_1 : decode cX4_save 1 = .ok (.invokestatic 169, 3) := by decide +kernel
theorem dX4_save_4 : decode cX4_save 4 = .ok (.ifCond .ne 6, 3) := by decide +kernel
theorem dX4_save_7 : decode cX4_save 7 = .ok (.bipush (-2), 2) := by decide +kernel
theorem dX4_save_9 : decode cX4_save 9 = .ok (.ireturn, 1) := by decide +kernel
theorem dX4_save_10 : decode cX4_save 10 = .ok (.iconst 0, 1) := by decide +kernel
theorem dX4_save_11 : decode cX4_save 11 = .ok (.istore_n 2, 1) := by decide +kernel
theorem dX4_save_12 : decode cX4_save 12 = .ok (.iload_n 2, 1) := by decide +kernel
theorem dX4_save_13 : decode cX4_save 13 = .ok (.bipush 86, 2) := by decide +kernel
theorem dX4_save_15 : decode cX4_save 15 = .ok (.if_icmp .ge 26, 3) := by decide +kernel
theorem dX4_save_18 : decode cX4_save 18 = .ok (.aload_n 0, 1) := by decide +kernel
theorem dX4_save_19 : decode cX4_save 19 = .ok (.getfield 19, 3) := by decide +kernel
theorem dX4_save_22 : decode cX4_save 22 = .ok (.bipush 86, 2) := by decide +kernel
theorem dX4_save_24 : decode cX4_save 24 = .ok (.iload_n 1, 1) := by decide +kernel
theorem dX4_save_25 : decode cX4_save 25 = .ok (.imul, 1) := by decide +kernel
theorem dX4_save_26 : decode cX4_save 26 = .ok (.iload_n 2, 1) := by decide +kernel
theorem dX4_save_27 : decode cX4_save 27 = .ok (.iadd, 1) := by decide +kernel
theorem dX4_save_28 : decode cX4_save 28 = .ok (.aload_n 0, 1) := by decide +kernel
theorem dX4_save_29 : decode cX4_save 29 = .ok (.getfield 7, 3) := by decide +kernel
theorem dX4_save_32 : decode cX4_save 32 = .ok (.iload_n 2, 1) := by decide +kernel
theorem dX4_save_33 : decode cX4_save 33 = .ok (.iaload, 1) := by decide +kernel
theorem dX4_save_34 : decode cX4_save 34 = .ok (.iastore, 1) := by decide +kernel
theorem dX4_save_35 : decode cX4_save 35 = .ok (.iinc 2 1, 3) := by decide +kernel
theorem dX4_save_38 : decode cX4_save 38 = .ok (.goto (-26), 3) := by decide +kernel
theorem dX4_save_41 : decode cX4_save 41 = .ok (.aload_n 0, 1) := by decide +kernel
theorem dX4_save_42 : decode cX4_save 42 = .ok (.getfield 22, 3) := by decide +kernel
theorem dX4_save_45 : decode cX4_save 45 = .ok (.iload_n 1, 1) := by decide +kernel
theorem dX4_save_46 : decode cX4_save 46 = .ok (.iconst 1, 1) := by decide +kernel
theorem dX4_save_47 : decode cX4_save 47 = .ok (.iastore, 1) := by decide +kernel
theorem dX4_save_48 : decode cX4_save 48 = .ok (.aload_n 0, 1) := by decide +kernel
theorem dX4_save_49 : decode cX4_save 49 = .ok (.getfield 7, 3) := by decide +kernel
theorem dX4_save_52 : decode cX4_save 52 = .ok (.iconst 4, 1) := by decide +kernel
theorem dX4_save_53 : decode cX4_save 53 = .ok (.iaload, 1) := by decide +kernel
theorem dX4_save_54 : decode cX4_save 54 = .ok (.ireturn, 1) := by decide +kernel
set_option maxRecDepth 20000 in
theorem ggX4_restore_X4_isSlot : GoodIn wsX4_restore wsX4_isSlot := goodIn_r _ [7] (by decide +kernel) (by decide +kernel)
set_option maxRecDepth 20000 in
theorem gX4_restore_X4_isSlot : GoodIn wsX4_restore (va_wsS RX4 169 yX4_isSlot wsX4_isSlot) := goodIn_app (goodIn_of _ (by decide +kernel)) ggX4_restore_X4_isSlot
set_option maxRecDepth 20000 in
theorem ggX4_restore_X4_changes : GoodIn wsX4_restore wsX4_changes := goodIn_r _ [11, 12, 13, 2, 14, 15, 16, 17, 18, 19, 20, 21, 22, 23] (by decide +kernel) (by decide +kernel)
set_option maxRecDepth 20000 in
theorem gX4_restore_X4_changes : GoodIn wsX4_restore (wsV RX4 82 RX4 yX4_changes wsX4_changes) := goodIn_app (goodIn_of _ (by decide +kernel)) ggX4_restore_X4_changes
theorem dX4_restore_0 : decode cX4_restore 0 = .ok (.iload_n 1, 1) := by decide +kernel
theorem dX4_restore_1 : decode cX4_restore 1 = .ok (.invokestatic 169, 3) := by decide +kernel
theorem dX4_restore_4 : decode cX4_restore 4 = .ok (.ifCond .ne 6, 3) := by decide +kernel
theorem dX4_restore_7 : decode cX4_restore 7 = .ok (.bipush (-2), 2) := by decide +kernel
theorem dX4_restore_9 : decode cX4_restore 9 = .ok (.ireturn, 1) := by decide +kernel
theorem dX4_restore_10 : decode cX4_restore 10 = .ok (.aload_n 0, 1) := by decide +kernel
theorem dX4_restore_11 : decode cX4_restore 11 = .ok (.getfield 22, 3) := by decide +kernel
theorem dX4_restore_14 : decode cX4_restore 14 = .ok (.iload_n 1, 1) := by decide +kernel
theorem dX4_restore_15 : decode cX4_restore 15 = .ok (.iaload, 1) := by decide +kernel
theorem dX4_restore_16 : decode cX4_restore 16 = .ok (.ifCond .ne 6, 3) := by decide +kernel
theorem dX4_restore_19 : decode cX4_restore 19 = .ok (.bipush (-5), 2) := by decide +kernel
theorem dX4_restore_21 : decode cX4_restore 21 = .ok (.ireturn, 1) := by decide +kernel
theorem dX4_restore_22 : decode cX4_restore 22 = .ok (.aload_n 0, 1) := by decide +kernel
theorem dX4_restore_23 : decode cX4_restore 23 = .ok (.invokevirtual 82, 3) := by decide +kernel
theorem dX4_restore_26 : decode cX4_restore 26 = .ok (.iconst 0, 1) := by decide +kernel
theorem dX4_restore_27 : decode cX4_restore 27 = .ok (.istore_n 2, 1) := by decide +kernel
theorem dX4_restore_28 : decode cX4_restore 28 = .ok (.iload_n 2, 1) := by decide +kernel
theorem dX4_restore_29 : decode cX4_restore 29 = .ok (.bipush 86, 2) := by decide +kernel
theorem dX4_restore_31 : decode cX4_restore 31 = .ok (.if_icmp .ge 26, 3) := by decide +kernel
theorem dX4_restore_34 : decode cX4_restore 34 = .ok (.aload_n 0, 1) := by decide +kernel
theorem dX4_restore_35 : decode cX4_restore 35 = .ok (.getfield 7, 3) := by decide +kernel
theorem dX4_restore_38 : decode cX4_restore 38 = .ok (.iload_n 2, 1) := by decide +kernel
theorem dX4_restore_39 : decode cX4_restore 39 = .ok (.aload_n 0, 1) := by decide +kernel
theorem dX4_restore_40 : decode cX4_restore 40 = .ok (.getfield 19, 3) := by decide +kernel
theorem dX4_restore_43 : decode cX4_restore 43 = .ok (.bipush 86, 2) := by decide +kernel
theorem dX4_restore_45 : decode cX4_restore 45 = .ok (.iload_n 1, 1) := by decide +kernel
theorem dX4_restore_46 : decode cX4_restore 46 = .ok (.imul, 1) := by decide +kernel
theorem dX4_restore_47 : decode cX4_restore 47 = .ok (.iload_n 2, 1) := by decide +kernel
theorem dX4_restore_48 : decode cX4_restore 48 = .ok (.iadd, 1) := by decide +kernel
theorem dX4_restore_49 : decode cX4_restore 49 = .ok (.iaload, 1) := by decide +kernel
theorem dX4_restore_50 : decode cX4_restore 50 = .ok (.iastore, 1) := by decide +kernel
theorem dX4_restore_51 : decode cX4_restore 51 = .ok (.iinc 2 1, 3) := by decide +kernel
theorem dX4_restore_54 : decode cX4_restore 54 = .ok (.goto (-26), 3) := by decide +kernel
theorem dX4_restore_57 : decode cX4_restore 57 = .ok (.aload_n 0, 1) := by decide +kernel
theorem dX4_restore_58 : decode cX4_restore 58 = .ok (.getfield 7, 3) := by decide +kernel
theorem dX4_restore_61 : decode cX4_restore 61 = .ok (.iconst 4, 1) := by decide +kernel
theorem dX4_restore_62 : decode cX4_restore 62 = .ok (.iaload, 1) := by decide +kernel
theorem dX4_restore_63 : decode cX4_restore 63 = .ok (.ireturn, 1) := by decide +kernel
