set_option maxRecDepth 20000 in
theorem ggX0_init_X0_partOf : GoodIn wsX0_init wsX0_partOf := goodIn_r _ [9] (by decide +kernel) (by decide +kernel)
set_option maxRecDepth 20000 in
theorem gX0_init_X0_partOf : GoodIn wsX0_init (va_wsS RX0 15 yX0_partOf wsX0_partOf) := goodIn_app (goodIn_of _ (by decide +kernel)) ggX0_init_X0_partOf
theorem dX0_init_0 : decode cX0_init 0 = .ok (.aload_n 0, 1) := by decide +kernel
theorem dX0_init_1 : decode cX0_init 1 = .ok (.invokespecial 5, 3) := by decide +kernel
theorem dX0_init_4 : decode cX0_init 4 = .ok (.aload_n 0, 1) := by decide +kernel
theorem dX0_init_5 : decode cX0_init 5 = .ok (.bipush 86, 2) := by decide +kernel
theorem dX0_init_7 : decode cX0_init 7 = .ok (.newarray .int, 2) := by decide +kernel
theorem dX0_init_9 : decode cX0_init 9 = .ok (.putfield 11, 3) := by decide +kernel
theorem dX0_init_12 : decode cX0_init 12 = .ok (.aload_n 0, 1) := by decide +kernel
theorem dX0_init_13 : decode cX0_init 13 = .ok (.getfield 11, 3) := by decide +kernel
theorem dX0_init_16 : decode cX0_init 16 = .ok (.iconst 0, 1) := by decide +kernel
theorem dX0_init_17 : decode cX0_init 17 = .ok (.bipush 30, 2) := by decide +kernel
theorem dX0_init_19 : decode cX0_init 19 = .ok (.iastore, 1) := by decide +kernel
theorem dX0_init_20 : decode cX0_init 20 = .ok (.aload_n 0, 1) := by decide +kernel
theorem dX0_init_21 : decode cX0_init 21 = .ok (.getfield 11, 3) := by decide +kernel
theorem dX0_init_24 : decode cX0_init 24 = .ok (.iconst 1, 1) := by decide +kernel
theorem dX0_init_25 : decode cX0_init 25 = .ok (.iconst 3, 1) := by decide +kernel
theorem dX0_init_26 : decode cX0_init 26 = .ok (.iastore, 1) := by decide +kernel
theorem dX0_init_27 : decode cX0_init 27 = .ok (.aload_n 0, 1) := by decide +kernel
theorem dX0_init_28 : decode cX0_init 28 = .ok (.getfield 11, 3) := by decide +kernel
theorem dX0_init_31 : decode cX0_init 31 = .ok (.iconst 2, 1) := by decide +kernel
theorem dX0_init_32 : decode cX0_init 32 = .ok (.bipush 20, 2) := by decide +kernel
theorem dX0_init_34 : decode cX0_init 34 = .ok (.iastore, 1) := by decide +kernel
theorem dX0_init_35 : decode cX0_init 35 = .ok (.iconst 0, 1) := by decide +kernel
theorem dX0_init_36 : decode cX0_init 36 = .ok (.istore_n 1, 1) := by decide +kernel
theorem dX0_init_37 : decode cX0_init 37 = .ok (.iload_n 1, 1) := by decide +kernel
theorem dX0_init_38 : decode cX0_init 38 = .ok (.bipush 6, 2) := by decide +kernel
theorem dX0_init_40 : decode cX0_init 40 = .ok (.if_icmp .ge 23, 3) := by decide +kernel
theorem dX0_init_43 : decode cX0_init 43 = .ok (.aload_n 0, 1) := by decide +kernel
theorem dX0_init_44 : decode cX0_init 44 = .ok (.getfield 11, 3) := by decide +kernel
theorem dX0_init_47 : decode cX0_init 47 = .ok (.iload_n 1, 1) := by decide +kernel
theorem dX0_init_48 : decode cX0_init 48 = .ok (.invokestatic 15, 3) := by decide +kernel
theorem dX0_init_51 : decode cX0_init 51 = .ok (.bipush 12, 2) := by decide +kernel
theorem dX0_init_53 : decode cX0_init 53 = .ok (.iadd, 1) := by decide +kernel
theorem dX0_init_54 : decode cX0_init 54 = .ok (.bipush (-6), 2) := by decide +kernel
theorem dX0_init_56 : decode cX0_init 56 = .ok (.iastore, 1) := by decide +kernel
theorem dX0_init_57 : decode cX0_init 57 = .ok (.iinc 1 1, 3) := by decide +kernel
theorem dX0_init_60 : decode cX0_init 60 = .ok (.goto (-23), 3) := by decide +kernel
theorem dX0_init_63 : decode cX0_init 63 = .ok (.return_, 1) := by decide +kernel
theorem dX0_partOf_0 : decode cX0_partOf 0 = .ok (.bipush 8, 2) := by decide +kernel
theorem dX0_partOf_2 : decode cX0_partOf 2 = .ok (.iload_n 0, 1) := by decide +kernel
theorem dX0_partOf_3 : decode cX0_partOf 3 = .ok (.bipush 13, 2) := by decide +kernel
theorem dX0_partOf_5 : decode cX0_partOf 5 = .ok (.imul, 1) := by decide +kernel
theorem dX0_partOf_6 : decode cX0_partOf 6 = .ok (.iadd, 1) := by decide +kernel
theorem dX0_partOf_7 : decode cX0_partOf 7 = .ok (.ireturn, 1) := by decide +kernel
set_option maxRecDepth 20000 in
theorem ggX0_change_X0_partOf : GoodIn wsX0_change wsX0_partOf := goodIn_r _ [6] (by decide +kernel) (by decide +kernel)
set_option maxRecDepth 20000 in
theorem gX0_change_X0_partOf : GoodIn wsX0_change (va_wsS RX0 15 yX0_partOf wsX0_partOf) := goodIn_app (goodIn_of _ (by decide +kernel)) ggX0_change_X0_partOf
set_option maxRecDepth 20000 in
theorem ggX0_change_X0_begin : GoodIn wsX0_change wsX0_begin := goodIn_r _ [10, 1, 31] (by decide +kernel) (by decide +kernel)
set_option maxRecDepth 20000 in
theorem gX0_change_X0_begin : GoodIn wsX0_change (wsV RX0 22 RX0 yX0_begin wsX0_begin) := goodIn_app (goodIn_of _ (by decide +kernel)) ggX0_change_X0_begin
set_option maxRecDepth 20000 in
theorem ggX0_change_X0_end : GoodIn wsX0_change wsX0_end := goodIn_r _ [14, 1, 15, 16, 17, 5, 18, 19, 20, 21, 22, 23, 24, 25, 26, 27, 28, 29, 30, 31] (by decide +kernel) (by decide +kernel)
set_option maxRecDepth 20000 in
theorem gX0_change_X0_end : GoodIn wsX0_change (wsV RX0 26 RX0 yX0_end wsX0_end) := goodIn_app (goodIn_of _ (by decide +kernel)) ggX0_change_X0_end
theorem dX0_change_0 : decode cX0_change 0 = .ok (.iload_n 1, 1) := by decide +kernel
theorem dX0_change_1 : decode cX0_change 1 = .ok (.invokestatic 15, 3) := by decide +kernel
theorem dX0_change_4 : decode cX0_change 4 = .ok (.istore_n 3, 1) := by decide +kernel
theorem dX0_change_5 : decode cX0_change 5 = .ok (.aload_n 0, 1) := by decide +kernel
theorem dX0_change_6 : decode cX0_change 6 = .ok (.getfield 11, 3) := by decide +kernel
theorem dX0_change_9 : decode cX0_change 9 = .ok (.iload_n 3, 1) := by decide +kernel
theorem dX0_change_10 : decode cX0_change 10 = .ok (.iconst 0, 1) := by decide +kernel
theorem dX0_change_11 : decode cX0_change 11 = .ok (.iadd, 1) := by decide +kernel
theorem dX0_change_12 : decode cX0_change 12 = .ok (.iaload, 1) := by decide +kernel
theorem dX0_change_13 : decode cX0_change 13 = .ok (.istore 4, 2) := by decide +kernel
theorem dX0_change_15 : decode cX0_change 15 = .ok (.iload 4, 2) := by decide +kernel
theorem dX0_change_17 : decode cX0_change 17 = .ok (.getstatic 19, 3) := by decide +kernel
theorem dX0_change_20 : decode cX0_change 20 = .ok (.iload_n 2, 1) := by decide +kernel
theorem dX0_change_21 : decode cX0_change 21 = .ok (.iaload, 1) := by decide +kernel
theorem dX0_change_22 : decode cX0_change 22 = .ok (.ixor, 1) := by decide +kernel
theorem dX0_change_23 : decode cX0_change 23 = .ok (.istore 5, 2) := by decide +kernel
theorem dX0_change_25 : decode cX0_change 25 = .ok (.iload 4, 2) := by decide +kernel
theorem dX0_change_27 : decode cX0_change 27 = .ok (.ifCond .ne 8, 3) := by decide +kernel
theorem dX0_change_30 : decode cX0_change 30 = .ok (.aload_n 0, 1) := by decide +kernel
theorem dX0_change_31 : decode cX0_change 31 = .ok (.iload_n 3, 1) := by decide +kernel
theorem dX0_change_32 : decode cX0_change 32 = .ok (.invokevirtual 22, 3) := by decide +kernel
theorem dX0_change_35 : decode cX0_change 35 = .ok (.iload_n 2, 1) := by decide +kernel
theorem dX0_change_36 : decode cX0_change 36 = .ok (.iconst 2, 1) := by decide +kernel
theorem dX0_change_37 : decode cX0_change 37 = .ok (.if_icmp .ne 15, 3) := by decide +kernel
theorem dX0_change_40 : decode cX0_change 40 = .ok (.aload_n 0, 1) := by decide +kernel
theorem dX0_change_41 : decode cX0_change 41 = .ok (.getfield 11, 3) := by decide +kernel
theorem dX0_change_44 : decode cX0_change 44 = .ok (.iload_n 3, 1) := by decide +kernel
theorem dX0_change_45 : decode cX0_change 45 = .ok (.iconst 3, 1) := by decide +kernel
theorem dX0_change_46 : decode cX0_change 46 = .ok (.iadd, 1) := by decide +kernel
theorem dX0_change_47 : decode cX0_change 47 = .ok (.iconst 0, 1) := by decide +kernel
theorem dX0_change_48 : decode cX0_change 48 = .ok (.iastore, 1) := by decide +kernel
theorem dX0_change_49 : decode cX0_change 49 = .ok (.goto 30, 3) := by decide +kernel
theorem dX0_change_52 : decode cX0_change 52 = .ok (.aload_n 0, 1) := by decide +kernel
theorem dX0_change_53 : decode cX0_change 53 = .ok (.getfield 11, 3) := by decide +kernel
theorem dX0_change_56 : decode cX0_change 56 = .ok (.iload_n 3, 1) := by decide +kernel
theorem dX0_change_57 : decode cX0_change 57 = .ok (.iconst 2, 1) := by decide +kernel
theorem dX0_change_58 : decode cX0_change 58 = .ok (.iadd, 1) := by decide +kernel
theorem dX0_change_59 : decode cX0_change 59 = .ok (.dup2, 1) := by decide +kernel
theorem dX0_change_60 : decode cX0_change 60 = .ok (.iaload, 1) := by decide +kernel
theorem dX0_change_61 : decode cX0_change 61 = .ok (.iload 5, 2) := by decide +kernel
theorem dX0_change_63 : decode cX0_change 63 = .ok (.iload 4, 2) := by decide +kernel
theorem dX0_change_65 : decode cX0_change 65 = .ok (.iconst 1, 1) := by decide +kernel
theorem dX0_change_66 : decode cX0_change 66 = .ok (.iadd, 1) := by decide +kernel
theorem dX0_change_67 : decode cX0_change 67 = .ok (.iconst 3, 1) := by decide +kernel
theorem dX0_change_68 : decode cX0_change 68 = .ok (.iand, 1) := by decide +kernel
theorem dX0_change_69 : decode cX0_change 69 = .ok (.if_icmp .ne 7, 3) := by decide +kernel
theorem dX0_change_72 : decode cX0_change 72 = .ok (.iconst 1, 1) := by decide +kernel
theorem dX0_change_73 : decode cX0_change 73 = .ok (.goto 4, 3) := by decide +kernel
theorem dX0_change_76 : decode cX0_change 76 = .ok (.iconst (-1), 1) := by decide +kernel
theorem dX0_change_77 : decode cX0_change 77 = .ok (.iadd, 1) := by decide +kernel
theorem dX0_change_78 : decode cX0_change 78 = .ok (.iastore, 1) := by decide +kernel
theorem dX0_change_79 : decode cX0_change 79 = .ok (.aload_n 0, 1) := by decide +kernel
theorem dX0_change_80 : decode cX0_change 80 = .ok (.getfield 11, 3) := by decide +kernel
theorem dX0_change_83 : decode cX0_change 83 = .ok (.iload_n 3, 1) := by decide +kernel
theorem dX0_change_84 : decode cX0_change 84 = .ok (.iconst 0, 1) := by decide +kernel
theorem dX0_change_85 : decode cX0_change 85 = .ok (.iadd, 1) := by decide +kernel
theorem dX0_change_86 : decode cX0_change 86 = .ok (.iload 5, 2) := by decide +kernel
theorem dX0_change_88 : decode cX0_change 88 = .ok (.iastore, 1) := by decide +kernel
theorem dX0_change_89 : decode cX0_change 89 = .ok (.iload 5, 2) := by decide +kernel
theorem dX0_change_91 : decode cX0_change 91 = .ok (.ifCond .ne 8, 3) := by decide +kernel
theorem dX0_change_94 : decode cX0_change 94 = .ok (.aload_n 0, 1) := by decide +kernel
theorem dX0_change_95 : decode cX0_change 95 = .ok (.iload_n 3, 1) := by decide +kernel
theorem dX0_change_96 : decode cX0_change 96 = .ok (.invokevirtual 26, 3) := by decide +kernel
theorem dX0_change_99 : decode cX0_change 99 = .ok (.iload 5, 2) := by decide +kernel
theorem dX0_change_101 : decode cX0_change 101 = .ok (.ireturn, 1) := by decide +kernel
set_option maxRecDepth 20000 in
theorem ggX0_free_X0_partOf : GoodIn wsX0_free wsX0_partOf := goodIn_r _ [5] (by decide +kernel) (by decide +kernel)
set_option maxRecDepth 20000 in
theorem gX0_free_X0_partOf : GoodIn wsX0_free (va_wsS RX0 15 yX0_partOf wsX0_partOf) := goodIn_app (goodIn_of _ (by decide +kernel)) ggX0_free_X0_partOf
set_option maxRecDepth 20000 in
theorem ggX0_free_X0_end : GoodIn wsX0_free wsX0_end := goodIn_r _ [9, 1, 10, 11, 12, 4, 13, 14, 15, 16, 17, 18, 19, 20, 21, 22, 23, 24, 25, 26] (by decide +kernel) (by decide +kernel)
set_option maxRecDepth 20000 in
theorem gX0_free_X0_end : GoodIn wsX0_free (wsV RX0 26 RX0 yX0_end wsX0_end) := goodIn_app (goodIn_of _ (by decide +kernel)) ggX0_free_X0_end
theorem dX0_free_0 : decode cX0_free 0 = .ok (.iload_n 1, 1) := by decide +kernel
theorem dX0_free_1 : decode cX0_free 1 = .ok (.invokestatic 15, 3) := by decide +kernel
theorem dX0_free_4 : decode cX0_free 4 = .ok (.istore_n 2, 1) := by decide +kernel
theorem dX0_free_5 : decode cX0_free 5 = .ok (.aload_n 0, 1) := by decide +kernel
theorem dX0_free_6 : decode cX0_free 6 = .ok (.getfield 11, 3) := by decide +kernel
theorem dX0_free_9 : decode cX0_free 9 = .ok (.iload_n 2, 1) := by decide +kernel
theorem dX0_free_10 : decode cX0_free 10 = .ok (.iconst 0, 1) := by decide +kernel
theorem dX0_free_11 : decode cX0_free 11 = .ok (.iadd, 1) := by decide +kernel
theorem dX0_free_12 : decode cX0_free 12 = .ok (.iaload, 1) := by decide +kernel
theorem dX0_free_13 : decode cX0_free 13 = .ok (.istore_n 3, 1) := by decide +kernel
theorem dX0_free_14 : decode cX0_free 14 = .ok (.aload_n 0, 1) := by decide +kernel
theorem dX0_free_15 : decode cX0_free 15 = .ok (.getfield 11, 3) := by decide +kernel
theorem dX0_free_18 : decode cX0_free 18 = .ok (.iload_n 2, 1) := by decide +kernel
theorem dX0_free_19 : decode cX0_free 19 = .ok (.iconst 0, 1) := by decide +kernel
theorem dX0_free_20 : decode cX0_free 20 = .ok (.iadd, 1) := by decide +kernel
theorem dX0_free_21 : decode cX0_free 21 = .ok (.iconst 0, 1) := by decide +kernel
theorem dX0_free_22 : decode cX0_free 22 = .ok (.iastore, 1) := by decide +kernel
theorem dX0_free_23 : decode cX0_free 23 = .ok (.aload_n 0, 1) := by decide +kernel
theorem dX0_free_24 : decode cX0_free 24 = .ok (.getfield 11, 3) := by decide +kernel
theorem dX0_free_27 : decode cX0_free 27 = .ok (.iload_n 2, 1) := by decide +kernel
theorem dX0_free_28 : decode cX0_free 28 = .ok (.iconst 3, 1) := by decide +kernel
theorem dX0_free_29 : decode cX0_free 29 = .ok (.iadd, 1) := by decide +kernel
theorem dX0_free_30 : decode cX0_free 30 = .ok (.iconst 0, 1) := by decide +kernel
theorem dX0_free_31 : decode cX0_free 31 = .ok (.iastore, 1) := by decide +kernel
theorem dX0_free_32 : decode cX0_free 32 = .ok (.aload_n 0, 1) := by decide +kernel
theorem dX0_free_33 : decode cX0_free 33 = .ok (.iload_n 2, 1) := by decide +kernel
theorem dX0_free_34 : decode cX0_free 34 = .ok (.invokevirtual 26, 3) := by decide +kernel
theorem dX0_free_37 : decode cX0_free 37 = .ok (.iload_n 3, 1) := by decide +kernel
theorem dX0_free_38 : decode cX0_free 38 = .ok (.ireturn, 1) := by decide +kernel
theorem dX0_begin_0 : decode cX0_begin 0 = .ok (.aload_n 0, 1) := by decide +kernel
theorem dX0_begin_1 : decode cX0_begin 1 = .ok (.getfield 11, 3) := by decide +kernel
theorem dX0_begin_4 : decode cX0_begin 4 = .ok (.iload_n 1, 1) := by decide +kernel
theorem dX0_begin_5 : decode cX0_begin 5 = .ok (.iconst 1, 1) := by decide +kernel
theorem dX0_begin_6 : decode cX0_begin 6 = .ok (.iadd, 1) := by decide +kernel
theorem dX0_begin_7 : decode cX0_begin 7 = .ok (.aload_n 0, 1) := by decide +kernel
theorem dX0_begin_8 : decode cX0_begin 8 = .ok (.getfield 11, 3) := by decide +kernel
theorem dX0_begin_11 : decode cX0_begin 11 = .ok (.iconst 3, 1) := by decide +kernel
theorem dX0_begin_12 : decode cX0_begin 12 = .ok (.iaload, 1) := by decide +kernel
theorem dX0_begin_13 : decode cX0_begin 13 = .ok (.iastore, 1) := by decide +kernel
theorem dX0_begin_14 : decode cX0_begin 14 = .ok (.aload_n 0, 1) := by decide +kernel
theorem dX0_begin_15 : decode cX0_begin 15 = .ok (.getfield 11, 3) := by decide +kernel
theorem dX0_begin_18 : decode cX0_begin 18 = .ok (.iload_n 1, 1) := by decide +kernel
theorem dX0_begin_19 : decode cX0_begin 19 = .ok (.iconst 2, 1) := by decide +kernel
theorem dX0_begin_20 : decode cX0_begin 20 = .ok (.iadd, 1) := by decide +kernel
theorem dX0_begin_21 : decode cX0_begin 21 = .ok (.iconst 0, 1) := by decide +kernel
theorem dX0_begin_22 : decode cX0_begin 22 = .ok (.iastore, 1) := by decide +kernel
theorem dX0_begin_23 : decode cX0_begin 23 = .ok (.aload_n 0, 1) := by decide +kernel
theorem dX0_begin_24 : decode cX0_begin 24 = .ok (.getfield 11, 3) := by decide +kernel
theorem dX0_begin_27 : decode cX0_begin 27 = .ok (.iload_n 1, 1) := by decide +kernel
theorem dX0_begin_28 : decode cX0_begin 28 = .ok (.iconst 3, 1) := by decide +kernel
theorem dX0_begin_29 : decode cX0_begin 29 = .ok (.iadd, 1) := by decide +kernel
theorem dX0_begin_30 : decode cX0_begin 30 = .ok (.iconst 1, 1) := by decide +kernel
theorem dX0_begin_31 : decode cX0_begin 31 = .ok (.iastore, 1) := by decide +kernel
theorem dX0_begin_32 : decode cX0_begin 32 = .ok (.return_, 1) := by decide +kernel
set_option maxRecDepth 20000 in
theorem ggX0_end_X0_comeThrough : GoodIn wsX0_end wsX0_comeThrough := goodIn_r _ [6, 1, 19] (by decide +kernel) (by decide +kernel)
set_option maxRecDepth 20000 in
theorem gX0_end_X0_comeThrough : GoodIn wsX0_end (wsV RX0 29 RX0 yX0_comeThrough wsX0_comeThrough) := goodIn_app (goodIn_of _ (by decide +kernel)) ggX0_end_X0_comeThrough
set_option maxRecDepth 20000 in
theorem ggX0_end_X0_oneMoreInside : GoodIn wsX0_end wsX0_oneMoreInside := goodIn_r _ [10, 1, 11, 12, 13, 5, 14, 19] (by decide +kernel) (by decide +kernel)
set_option maxRecDepth 20000 in
theorem gX0_end_X0_oneMoreInside : GoodIn wsX0_end (wsV RX0 33 RX0 yX0_oneMoreInside wsX0_oneMoreInside) := goodIn_app (goodIn_of _ (by decide +kernel)) ggX0_end_X0_oneMoreInside
set_option maxRecDepth 20000 in
theorem ggX0_end_X0_oneLessInside : GoodIn wsX0_end wsX0_oneLessInside := goodIn_r _ [18, 1, 19] (by decide +kernel) (by decide +kernel)
set_option maxRecDepth 20000 in
theorem gX0_end_X0_oneLessInside : GoodIn wsX0_end (wsV RX0 36 RX0 yX0_oneLessInside wsX0_oneLessInside) := goodIn_app (goodIn_of _ (by decide +kernel)) ggX0_end_X0_oneLessInside
theorem dX0_end_0 : decode cX0_end 0 = .ok (.aload_n 0, 1) := by decide +kernel
theorem dX0_end_1 : decode cX0_end 1 = .ok (.getfield 11, 3) := by decide +kernel
theorem dX0_end_4 : decode cX0_end 4 = .ok (.iconst 3, 1) := by decide +kernel
theorem dX0_end_5 : decode cX0_end 5 = .ok (.iaload, 1) := by decide +kernel
theorem dX0_end_6 : decode cX0_end 6 = .ok (.aload_n 0, 1) := by decide +kernel
theorem dX0_end_7 : decode cX0_end 7 = .ok (.getfield 11, 3) := by decide +kernel
theorem dX0_end_10 : decode cX0_end 10 = .ok (.iload_n 1, 1) := by decide +kernel
theorem dX0_end_11 : decode cX0_end 11 = .ok (.iconst 1, 1) := by decide +kernel
theorem dX0_end_12 : decode cX0_end 12 = .ok (.iadd, 1) := by decide +kernel
theorem dX0_end_13 : decode cX0_end 13 = .ok (.iaload, 1) := by decide +kernel
theorem dX0_end_14 : decode cX0_end 14 = .ok (.isub, 1) := by decide +kernel
theorem dX0_end_15 : decode cX0_end 15 = .ok (.aload_n 0, 1) := by decide +kernel
theorem dX0_end_16 : decode cX0_end 16 = .ok (.getfield 11, 3) := by decide +kernel
theorem dX0_end_19 : decode cX0_end 19 = .ok (.iconst 0, 1) := by decide +kernel
theorem dX0_end_20 : decode cX0_end 20 = .ok (.iaload, 1) := by decide +kernel
theorem dX0_end_21 : decode cX0_end 21 = .ok (.if_icmp .lt 16, 3) := by decide +kernel
theorem dX0_end_24 : decode cX0_end 24 = .ok (.aload_n 0, 1) := by decide +kernel
theorem dX0_end_25 : decode cX0_end 25 = .ok (.getfield 11, 3) := by decide +kernel
theorem dX0_end_28 : decode cX0_end 28 = .ok (.iload_n 1, 1) := by decide +kernel
theorem dX0_end_29 : decode cX0_end 29 = .ok (.bipush 9, 2) := by decide +kernel
theorem dX0_end_31 : decode cX0_end 31 = .ok (.iadd, 1) := by decide +kernel
theorem dX0_end_32 : decode cX0_end 32 = .ok (.dup2, 1) := by decide +kernel
theorem dX0_end_33 : decode cX0_end 33 = .ok (.iaload, 1) := by decide +kernel
theorem dX0_end_34 : decode cX0_end 34 = .ok (.iconst 1, 1) := by decide +kernel
theorem dX0_end_35 : decode cX0_end 35 = .ok (.iadd, 1) := by decide +kernel
theorem dX0_end_36 : decode cX0_end 36 = .ok (.iastore, 1) := by decide +kernel
theorem dX0_end_37 : decode cX0_end 37 = .ok (.aload_n 0, 1) := by decide +kernel
theorem dX0_end_38 : decode cX0_end 38 = .ok (.getfield 11, 3) := by decide +kernel
theorem dX0_end_41 : decode cX0_end 41 = .ok (.iload_n 1, 1) := by decide +kernel
theorem dX0_end_42 : decode cX0_end 42 = .ok (.iconst 3, 1) := by decide +kernel
theorem dX0_end_43 : decode cX0_end 43 = .ok (.iadd, 1) := by decide +kernel
theorem dX0_end_44 : decode cX0_end 44 = .ok (.iaload, 1) := by decide +kernel
theorem dX0_end_45 : decode cX0_end 45 = .ok (.ifCond .ne 19, 3) := by decide +kernel
theorem dX0_end_48 : decode cX0_end 48 = .ok (.aload_n 0, 1) := by decide +kernel
theorem dX0_end_49 : decode cX0_end 49 = .ok (.getfield 11, 3) := by decide +kernel
theorem dX0_end_52 : decode cX0_end 52 = .ok (.iload_n 1, 1) := by decide +kernel
theorem dX0_end_53 : decode cX0_end 53 = .ok (.bipush 8, 2) := by decide +kernel
theorem dX0_end_55 : decode cX0_end 55 = .ok (.iadd, 1) := by decide +kernel
theorem dX0_end_56 : decode cX0_end 56 = .ok (.dup2, 1) := by decide +kernel
theorem dX0_end_57 : decode cX0_end 57 = .ok (.iaload, 1) := by decide +kernel
theorem dX0_end_58 : decode cX0_end 58 = .ok (.iconst 1, 1) := by decide +kernel
theorem dX0_end_59 : decode cX0_end 59 = .ok (.iadd, 1) := by decide +kernel
theorem dX0_end_60 : decode cX0_end 60 = .ok (.iastore, 1) := by decide +kernel
theorem dX0_end_61 : decode cX0_end 61 = .ok (.goto 68, 3) := by decide +kernel
theorem dX0_end_64 : decode cX0_end 64 = .ok (.aload_n 0, 1) := by decide +kernel
theorem dX0_end_65 : decode cX0_end 65 = .ok (.getfield 11, 3) := by decide +kernel
theorem dX0_end_68 : decode cX0_end 68 = .ok (.iload_n 1, 1) := by decide +kernel
theorem dX0_end_69 : decode cX0_end 69 = .ok (.iconst 2, 1) := by decide +kernel
theorem dX0_end_70 : decode cX0_end 70 = .ok (.iadd, 1) := by decide +kernel
theorem dX0_end_71 : decode cX0_end 71 = .ok (.iaload, 1) := by decide +kernel
theorem dX0_end_72 : decode cX0_end 72 = .ok (.iconst 4, 1) := by decide +kernel
theorem dX0_end_73 : decode cX0_end 73 = .ok (.if_icmp .ne 16, 3) := by decide +kernel
theorem dX0_end_76 : decode cX0_end 76 = .ok (.aload_n 0, 1) := by decide +kernel
theorem dX0_end_77 : decode cX0_end 77 = .ok (.iload_n 1, 1) := by decide +kernel
theorem dX0_end_78 : decode cX0_end 78 = .ok (.iconst 5, 1) := by decide +kernel
theorem dX0_end_79 : decode cX0_end 79 = .ok (.invokevirtual 29, 3) := by decide +kernel
theorem dX0_end_82 : decode cX0_end 82 = .ok (.aload_n 0, 1) := by decide +kernel
theorem dX0_end_83 : decode cX0_end 83 = .ok (.invokevirtual 33, 3) := by decide +kernel
theorem dX0_end_86 : decode cX0_end 86 = .ok (.goto 43, 3) := by decide +kernel
theorem dX0_end_89 : decode cX0_end 89 = .ok (.aload_n 0, 1) := by decide +kernel
theorem dX0_end_90 : decode cX0_end 90 = .ok (.getfield 11, 3) := by decide +kernel
theorem dX0_end_93 : decode cX0_end 93 = .ok (.iload_n 1, 1) := by decide +kernel
theorem dX0_end_94 : decode cX0_end 94 = .ok (.iconst 2, 1) := by decide +kernel
theorem dX0_end_95 : decode cX0_end 95 = .ok (.iadd, 1) := by decide +kernel
theorem dX0_end_96 : decode cX0_end 96 = .ok (.iaload, 1) := by decide +kernel
theorem dX0_end_97 : decode cX0_end 97 = .ok (.bipush (-4), 2) := by decide +kernel
theorem dX0_end_99 : decode cX0_end 99 = .ok (.if_icmp .ne 17, 3) := by decide +kernel
theorem dX0_end_102 : decode cX0_end 102 = .ok (.aload_n 0, 1) := by decide +kernel
theorem dX0_end_103 : decode cX0_end 103 = .ok (.iload_n 1, 1) := by decide +kernel
theorem dX0_end_104 : decode cX0_end 104 = .ok (.bipush 6, 2) := by decide +kernel
theorem dX0_end_106 : decode cX0_end 106 = .ok (.invokevirtual 29, 3) := by decide +kernel
theorem dX0_end_109 : decode cX0_end 109 = .ok (.aload_n 0, 1) := by decide +kernel
theorem dX0_end_110 : decode cX0_end 110 = .ok (.invokevirtual 36, 3) := by decide +kernel
theorem dX0_end_113 : decode cX0_end 113 = .ok (.goto 16, 3) := by decide +kernel
theorem dX0_end_116 : decode cX0_end 116 = .ok (.aload_n 0, 1) := by decide +kernel
theorem dX0_end_117 : decode cX0_end 117 = .ok (.getfield 11, 3) := by decide +kernel
theorem dX0_end_120 : decode cX0_end 120 = .ok (.iload_n 1, 1) := by decide +kernel
theorem dX0_end_121 : decode cX0_end 121 = .ok (.bipush 7, 2) := by decide +kernel
theorem dX0_end_123 : decode cX0_end 123 = .ok (.iadd, 1) := by decide +kernel
theorem dX0_end_124 : decode cX0_end 124 = .ok (.dup2, 1) := by decide +kernel
theorem dX0_end_125 : decode cX0_end 125 = .ok (.iaload, 1) := by decide +kernel
theorem dX0_end_126 : decode cX0_end 126 = .ok (.iconst 1, 1) := by decide +kernel
theorem dX0_end_127 : decode cX0_end 127 = .ok (.iadd, 1) := by decide +kernel
theorem dX0_end_128 : decode cX0_end 128 = .ok (.iastore, 1) := by decide +kernel
theorem dX0_end_129 : decode cX0_end 129 = .ok (.return_, 1) := by decide +kernel
theorem dX0_comeThrough_0 : decode cX0_comeThrough 0 = .ok (.aload_n 0, 1) := by decide +kernel
theorem dX0_comeThrough_1 : decode cX0_comeThrough 1 = .ok (.getfield 11, 3) := by decide +kernel
theorem dX0_comeThrough_4 : decode cX0_comeThrough 4 = .ok (.iload_n 1, 1) := by decide +kernel
theorem dX0_comeThrough_5 : decode cX0_comeThrough 5 = .ok (.iconst 1, 1) := by decide +kernel
theorem dX0_comeThrough_6 : decode cX0_comeThrough 6 = .ok (.iadd, 1) := by decide +kernel
theorem dX0_comeThrough_7 : decode cX0_comeThrough 7 = .ok (.iaload, 1) := by decide +kernel
theorem dX0_comeThrough_8 : decode cX0_comeThrough 8 = .ok (.istore_n 3, 1) := by decide +kernel
theorem dX0_comeThrough_9 : decode cX0_comeThrough 9 = .ok (.aload_n 0, 1) := by decide +kernel
theorem dX0_comeThrough_10 : decode cX0_comeThrough 10 = .ok (.getfield 11, 3) := by decide +kernel
theorem dX0_comeThrough_13 : decode cX0_comeThrough 13 = .ok (.iload_n 1, 1) := by decide +kernel
theorem dX0_comeThrough_14 : decode cX0_comeThrough 14 = .ok (.iconst 4, 1) := by decide +kernel
theorem dX0_comeThrough_15 : decode cX0_comeThrough 15 = .ok (.iadd, 1) := by decide +kernel
theorem dX0_comeThrough_16 : decode cX0_comeThrough 16 = .ok (.iaload, 1) := by decide +kernel
theorem dX0_comeThrough_17 : decode cX0_comeThrough 17 = .ok (.iload_n 2, 1) := by decide +kernel
theorem dX0_comeThrough_18 : decode cX0_comeThrough 18 = .ok (.if_icmp .ne 36, 3) := by decide +kernel
theorem dX0_comeThrough_21 : decode cX0_comeThrough 21 = .ok (.iload_n 3, 1) := by decide +kernel
theorem dX0_comeThrough_22 : decode cX0_comeThrough 22 = .ok (.aload_n 0, 1) := by decide +kernel
theorem dX0_comeThrough_23 : decode cX0_comeThrough 23 = .ok (.getfield 11, 3) := by decide +kernel
theorem dX0_comeThrough_26 : decode cX0_comeThrough 26 = .ok (.iload_n 1, 1) := by decide +kernel
theorem dX0_comeThrough_27 : decode cX0_comeThrough 27 = .ok (.bipush 12, 2) := by decide +kernel
theorem dX0_comeThrough_29 : decode cX0_comeThrough 29 = .ok (.iadd, 1) := by decide +kernel
theorem dX0_comeThrough_30 : decode cX0_comeThrough 30 = .ok (.iaload, 1) := by decide +kernel
theorem dX0_comeThrough_31 : decode cX0_comeThrough 31 = .ok (.isub, 1) := by decide +kernel
theorem dX0_comeThrough_32 : decode cX0_comeThrough 32 = .ok (.aload_n 0, 1) := by decide +kernel
theorem dX0_comeThrough_33 : decode cX0_comeThrough 33 = .ok (.getfield 11, 3) := by decide +kernel
theorem dX0_comeThrough_36 : decode cX0_comeThrough 36 = .ok (.iconst 1, 1) := by decide +kernel
theorem dX0_comeThrough_37 : decode cX0_comeThrough 37 = .ok (.iaload, 1) := by decide +kernel
theorem dX0_comeThrough_38 : decode cX0_comeThrough 38 = .ok (.if_icmp .gt 16, 3) := by decide +kernel
theorem dX0_comeThrough_41 : decode cX0_comeThrough 41 = .ok (.aload_n 0, 1) := by decide +kernel
theorem dX0_comeThrough_42 : decode cX0_comeThrough 42 = .ok (.getfield 11, 3) := by decide +kernel
theorem dX0_comeThrough_45 : decode cX0_comeThrough 45 = .ok (.iload_n 1, 1) := by decide +kernel
theorem dX0_comeThrough_46 : decode cX0_comeThrough 46 = .ok (.bipush 10, 2) := by decide +kernel
theorem dX0_comeThrough_48 : decode cX0_comeThrough 48 = .ok (.iadd, 1) := by decide +kernel
theorem dX0_comeThrough_49 : decode cX0_comeThrough 49 = .ok (.dup2, 1) := by decide +kernel
theorem dX0_comeThrough_50 : decode cX0_comeThrough 50 = .ok (.iaload, 1) := by decide +kernel
theorem dX0_comeThrough_51 : decode cX0_comeThrough 51 = .ok (.iconst 1, 1) := by decide +kernel
theorem dX0_comeThrough_52 : decode cX0_comeThrough 52 = .ok (.iadd, 1) := by decide +kernel
theorem dX0_comeThrough_53 : decode cX0_comeThrough 53 = .ok (.iastore, 1) := by decide +kernel
theorem dX0_comeThrough_54 : decode cX0_comeThrough 54 = .ok (.aload_n 0, 1) := by decide +kernel
theorem dX0_comeThrough_55 : decode cX0_comeThrough 55 = .ok (.getfield 11, 3) := by decide +kernel
theorem dX0_comeThrough_58 : decode cX0_comeThrough 58 = .ok (.iload_n 1, 1) := by decide +kernel
theorem dX0_comeThrough_59 : decode cX0_comeThrough 59 = .ok (.iload_n 2, 1) := by decide +kernel
theorem dX0_comeThrough_60 : decode cX0_comeThrough 60 = .ok (.iadd, 1) := by decide +kernel
theorem dX0_comeThrough_61 : decode cX0_comeThrough 61 = .ok (.dup2, 1) := by decide +kernel
theorem dX0_comeThrough_62 : decode cX0_comeThrough 62 = .ok (.iaload, 1) := by decide +kernel
theorem dX0_comeThrough_63 : decode cX0_comeThrough 63 = .ok (.iconst 1, 1) := by decide +kernel
theorem dX0_comeThrough_64 : decode cX0_comeThrough 64 = .ok (.iadd, 1) := by decide +kernel
theorem dX0_comeThrough_65 : decode cX0_comeThrough 65 = .ok (.iastore, 1) := by decide +kernel
theorem dX0_comeThrough_66 : decode cX0_comeThrough 66 = .ok (.aload_n 0, 1) := by decide +kernel
theorem dX0_comeThrough_67 : decode cX0_comeThrough 67 = .ok (.getfield 11, 3) := by decide +kernel
theorem dX0_comeThrough_70 : decode cX0_comeThrough 70 = .ok (.iload_n 1, 1) := by decide +kernel
theorem dX0_comeThrough_71 : decode cX0_comeThrough 71 = .ok (.bipush 11, 2) := by decide +kernel
theorem dX0_comeThrough_73 : decode cX0_comeThrough 73 = .ok (.iadd, 1) := by decide +kernel
theorem dX0_comeThrough_74 : decode cX0_comeThrough 74 = .ok (.dup2, 1) := by decide +kernel
theorem dX0_comeThrough_75 : decode cX0_comeThrough 75 = .ok (.iaload, 1) := by decide +kernel
theorem dX0_comeThrough_76 : decode cX0_comeThrough 76 = .ok (.aload_n 0, 1) := by decide +kernel
theorem dX0_comeThrough_77 : decode cX0_comeThrough 77 = .ok (.getfield 11, 3) := by decide +kernel
theorem dX0_comeThrough_80 : decode cX0_comeThrough 80 = .ok (.iconst 3, 1) := by decide +kernel
theorem dX0_comeThrough_81 : decode cX0_comeThrough 81 = .ok (.iaload, 1) := by decide +kernel
theorem dX0_comeThrough_82 : decode cX0_comeThrough 82 = .ok (.iload_n 3, 1) := by decide +kernel
theorem dX0_comeThrough_83 : decode cX0_comeThrough 83 = .ok (.isub, 1) := by decide +kernel
theorem dX0_comeThrough_84 : decode cX0_comeThrough 84 = .ok (.iadd, 1) := by decide +kernel
theorem dX0_comeThrough_85 : decode cX0_comeThrough 85 = .ok (.iastore, 1) := by decide +kernel
theorem dX0_comeThrough_86 : decode cX0_comeThrough 86 = .ok (.aload_n 0, 1) := by decide +kernel
theorem dX0_comeThrough_87 : decode cX0_comeThrough 87 = .ok (.getfield 11, 3) := by decide +kernel
theorem dX0_comeThrough_90 : decode cX0_comeThrough 90 = .ok (.iload_n 1, 1) := by decide +kernel
theorem dX0_comeThrough_91 : decode cX0_comeThrough 91 = .ok (.iconst 4, 1) := by decide +kernel
theorem dX0_comeThrough_92 : decode cX0_comeThrough 92 = .ok (.iadd, 1) := by decide +kernel
theorem dX0_comeThrough_93 : decode cX0_comeThrough 93 = .ok (.iload_n 2, 1) := by decide +kernel
theorem dX0_comeThrough_94 : decode cX0_comeThrough 94 = .ok (.iastore, 1) := by decide +kernel
theorem dX0_comeThrough_95 : decode cX0_comeThrough 95 = .ok (.aload_n 0, 1) := by decide +kernel
theorem dX0_comeThrough_96 : decode cX0_comeThrough 96 = .ok (.getfield 11, 3) := by decide +kernel
theorem dX0_comeThrough_99 : decode cX0_comeThrough 99 = .ok (.iload_n 1, 1) := by decide +kernel
theorem dX0_comeThrough_100 : decode cX0_comeThrough 100 = .ok (.bipush 12, 2) := by decide +kernel
theorem dX0_comeThrough_102 : decode cX0_comeThrough 102 = .ok (.iadd, 1) := by decide +kernel
theorem dX0_comeThrough_103 : decode cX0_comeThrough 103 = .ok (.aload_n 0, 1) := by decide +kernel
theorem dX0_comeThrough_104 : decode cX0_comeThrough 104 = .ok (.getfield 11, 3) := by decide +kernel
theorem dX0_comeThrough_107 : decode cX0_comeThrough 107 = .ok (.iconst 3, 1) := by decide +kernel
theorem dX0_comeThrough_108 : decode cX0_comeThrough 108 = .ok (.iaload, 1) := by decide +kernel
theorem dX0_comeThrough_109 : decode cX0_comeThrough 109 = .ok (.iastore, 1) := by decide +kernel
theorem dX0_comeThrough_110 : decode cX0_comeThrough 110 = .ok (.return_, 1) := by decide +kernel
set_option maxRecDepth 20000 in
theorem ggX0_oneMoreInside_X0_becomeInside : GoodIn wsX0_oneMoreInside wsX0_becomeInside := goodIn_r _ [6, 1, 7] (by decide +kernel) (by decide +kernel)
set_option maxRecDepth 20000 in
theorem gX0_oneMoreInside_X0_becomeInside : GoodIn wsX0_oneMoreInside (wsV RX0 39 RX0 yX0_becomeInside wsX0_becomeInside) := goodIn_app (goodIn_of _ (by decide +kernel)) ggX0_oneMoreInside_X0_becomeInside
theorem dX0_oneMoreInside_0 : decode cX0_oneMoreInside 0 = .ok (.aload_n 0, 1) := by decide +kernel
theorem dX0_oneMoreInside_1 : decode cX0_oneMoreInside 1 = .ok (.aload_n 0, 1) := by decide +kernel
theorem dX0_oneMoreInside_2 : decode cX0_oneMoreInside 2 = .ok (.getfield 11, 3) := by decide +kernel
theorem dX0_oneMoreInside_5 : decode cX0_oneMoreInside 5 = .ok (.iconst 4, 1) := by decide +kernel
theorem dX0_oneMoreInside_6 : decode cX0_oneMoreInside 6 = .ok (.iaload, 1) := by decide +kernel
theorem dX0_oneMoreInside_7 : decode cX0_oneMoreInside 7 = .ok (.iconst 1, 1) := by decide +kernel
theorem dX0_oneMoreInside_8 : decode cX0_oneMoreInside 8 = .ok (.iadd, 1) := by decide +kernel
theorem dX0_oneMoreInside_9 : decode cX0_oneMoreInside 9 = .ok (.invokevirtual 39, 3) := by decide +kernel
theorem dX0_oneMoreInside_12 : decode cX0_oneMoreInside 12 = .ok (.aload_n 0, 1) := by decide +kernel
theorem dX0_oneMoreInside_13 : decode cX0_oneMoreInside 13 = .ok (.getfield 11, 3) := by decide +kernel
theorem dX0_oneMoreInside_16 : decode cX0_oneMoreInside 16 = .ok (.iconst 4, 1) := by decide +kernel
theorem dX0_oneMoreInside_17 : decode cX0_oneMoreInside 17 = .ok (.iaload, 1) := by decide +kernel
theorem dX0_oneMoreInside_18 : decode cX0_oneMoreInside 18 = .ok (.aload_n 0, 1) := by decide +kernel
theorem dX0_oneMoreInside_19 : decode cX0_oneMoreInside 19 = .ok (.getfield 11, 3) := by decide +kernel
theorem dX0_oneMoreInside_22 : decode cX0_oneMoreInside 22 = .ok (.iconst 2, 1) := by decide +kernel
theorem dX0_oneMoreInside_23 : decode cX0_oneMoreInside 23 = .ok (.iaload, 1) := by decide +kernel
theorem dX0_oneMoreInside_24 : decode cX0_oneMoreInside 24 = .ok (.if_icmp .le 14, 3) := by decide +kernel
theorem dX0_oneMoreInside_27 : decode cX0_oneMoreInside 27 = .ok (.aload_n 0, 1) := by decide +kernel
theorem dX0_oneMoreInside_28 : decode cX0_oneMoreInside 28 = .ok (.getfield 11, 3) := by decide +kernel
theorem dX0_oneMoreInside_31 : decode cX0_oneMoreInside 31 = .ok (.bipush 6, 2) := by decide +kernel
theorem dX0_oneMoreInside_33 : decode cX0_oneMoreInside 33 = .ok (.dup2, 1) := by decide +kernel
theorem dX0_oneMoreInside_34 : decode cX0_oneMoreInside 34 = .ok (.iaload, 1) := by decide +kernel
theorem dX0_oneMoreInside_35 : decode cX0_oneMoreInside 35 = .ok (.iconst 1, 1) := by decide +kernel
theorem dX0_oneMoreInside_36 : decode cX0_oneMoreInside 36 = .ok (.iadd, 1) := by decide +kernel
theorem dX0_oneMoreInside_37 : decode cX0_oneMoreInside 37 = .ok (.iastore, 1) := by decide +kernel
theorem dX0_oneMoreInside_38 : decode cX0_oneMoreInside 38 = .ok (.return_, 1) := by decide +kernel
theorem dX0_oneLessInside_0 : decode cX0_oneLessInside 0 = .ok (.aload_n 0, 1) := by decide +kernel
theorem dX0_oneLessInside_1 : decode cX0_oneLessInside 1 = .ok (.getfield 11, 3) := by decide +kernel
theorem dX0_oneLessInside_4 : decode cX0_oneLessInside 4 = .ok (.iconst 4, 1) := by decide +kernel
theorem dX0_oneLessInside_5 : decode cX0_oneLessInside 5 = .ok (.iaload, 1) := by decide +kernel
theorem dX0_oneLessInside_6 : decode cX0_oneLessInside 6 = .ok (.ifCond .le 16, 3) := by decide +kernel
theorem dX0_oneLessInside_9 : decode cX0_oneLessInside 9 = .ok (.aload_n 0, 1) := by decide +kernel
theorem dX0_oneLessInside_10 : decode cX0_oneLessInside 10 = .ok (.getfield 11, 3) := by decide +kernel
theorem dX0_oneLessInside_13 : decode cX0_oneLessInside 13 = .ok (.iconst 4, 1) := by decide +kernel
theorem dX0_oneLessInside_14 : decode cX0_oneLessInside 14 = .ok (.dup2, 1) := by decide +kernel
theorem dX0_oneLessInside_15 : decode cX0_oneLessInside 15 = .ok (.iaload, 1) := by decide +kernel
theorem dX0_oneLessInside_16 : decode cX0_oneLessInside 16 = .ok (.iconst 1, 1) := by decide +kernel
theorem dX0_oneLessInside_17 : decode cX0_oneLessInside 17 = .ok (.isub, 1) := by decide +kernel
theorem dX0_oneLessInside_18 : decode cX0_oneLessInside 18 = .ok (.iastore, 1) := by decide +kernel
theorem dX0_oneLessInside_19 : decode cX0_oneLessInside 19 = .ok (.goto 14, 3) := by decide +kernel
theorem dX0_oneLessInside_22 : decode cX0_oneLessInside 22 = .ok (.aload_n 0, 1) := by decide +kernel
theorem dX0_oneLessInside_23 : decode cX0_oneLessInside 23 = .ok (.getfield 11, 3) := by decide +kernel
theorem dX0_oneLessInside_26 : decode cX0_oneLessInside 26 = .ok (.bipush 7, 2) := by decide +kernel
theorem dX0_oneLessInside_28 : decode cX0_oneLessInside 28 = .ok (.dup2, 1) := by decide +kernel
theorem dX0_oneLessInside_29 : decode cX0_oneLessInside 29 = .ok (.iaload, 1) := by decide +kernel
theorem dX0_oneLessInside_30 : decode cX0_oneLessInside 30 = .ok (.iconst 1, 1) := by decide +kernel
theorem dX0_oneLessInside_31 : decode cX0_oneLessInside 31 = .ok (.iadd, 1) := by decide +kernel
theorem dX0_oneLessInside_32 : decode cX0_oneLessInside 32 = .ok (.iastore, 1) := by decide +kernel
theorem dX0_oneLessInside_33 : decode cX0_oneLessInside 33 = .ok (.return_, 1) := by decide +kernel
theorem dX0_becomeInside_0 : decode cX0_becomeInside 0 = .ok (.aload_n 0, 1) := by decide +kernel
theorem dX0_becomeInside_1 : decode cX0_becomeInside 1 = .ok (.getfield 11, 3) := by decide +kernel
theorem dX0_becomeInside_4 : decode cX0_becomeInside 4 = .ok (.iconst 4, 1) := by decide +kernel
theorem dX0_becomeInside_5 : decode cX0_becomeInside 5 = .ok (.iload_n 1, 1) := by decide +kernel
theorem dX0_becomeInside_6 : decode cX0_becomeInside 6 = .ok (.iastore, 1) := by decide +kernel
theorem dX0_becomeInside_7 : decode cX0_becomeInside 7 = .ok (.iload_n 1, 1) := by decide +kernel
theorem dX0_becomeInside_8 : decode cX0_becomeInside 8 = .ok (.aload_n 0, 1) := by decide +kernel
theorem dX0_becomeInside_9 : decode cX0_becomeInside 9 = .ok (.getfield 11, 3) := by decide +kernel
theorem dX0_becomeInside_12 : decode cX0_becomeInside 12 = .ok (.iconst 5, 1) := by decide +kernel
theorem dX0_becomeInside_13 : decode cX0_becomeInside 13 = .ok (.iaload, 1) := by decide +kernel
theorem dX0_becomeInside_14 : decode cX0_becomeInside 14 = .ok (.if_icmp .le 10, 3) := by decide +kernel
theorem dX0_becomeInside_17 : decode cX0_becomeInside 17 = .ok (.aload_n 0, 1) := by decide +kernel
theorem dX0_becomeInside_18 : decode cX0_becomeInside 18 = .ok (.getfield 11, 3) := by decide +kernel
theorem dX0_becomeInside_21 : decode cX0_becomeInside 21 = .ok (.iconst 5, 1) := by decide +kernel
theorem dX0_becomeInside_22 : decode cX0_becomeInside 22 = .ok (.iload_n 1, 1) := by decide +kernel
theorem dX0_becomeInside_23 : decode cX0_becomeInside 23 = .ok (.iastore, 1) := by decide +kernel
theorem dX0_becomeInside_24 : decode cX0_becomeInside 24 = .ok (.return_, 1) := by decide +kernel
theorem dX0_hasRoomFor_0 : decode cX0_hasRoomFor 0 = .ok (.aload_n 0, 1) := by decide +kernel
theorem dX0_hasRoomFor_1 : decode cX0_hasRoomFor 1 = .ok (.getfield 11, 3) := by decide +kernel
theorem dX0_hasRoomFor_4 : decode cX0_hasRoomFor 4 = .ok (.iconst 3, 1) := by decide +kernel
theorem dX0_hasRoomFor_5 : decode cX0_hasRoomFor 5 = .ok (.iaload, 1) := by decide +kernel
theorem dX0_hasRoomFor_6 : decode cX0_hasRoomFor 6 = .ok (.iload_n 1, 1) := by decide +kernel
theorem dX0_hasRoomFor_7 : decode cX0_hasRoomFor 7 = .ok (.iadd, 1) := by decide +kernel
theorem dX0_hasRoomFor_8 : decode cX0_hasRoomFor 8 = .ok (.ldc 42, 2) := by decide +kernel
theorem dX0_hasRoomFor_10 : decode cX0_hasRoomFor 10 = .ok (.if_icmp .gt 7, 3) := by decide +kernel
theorem dX0_hasRoomFor_13 : decode cX0_hasRoomFor 13 = .ok (.iconst 1, 1) := by decide +kernel
theorem dX0_hasRoomFor_14 : decode cX0_hasRoomFor 14 = .ok (.goto 4, 3) := by decide +kernel
theorem dX0_hasRoomFor_17 : decode cX0_hasRoomFor 17 = .ok (.iconst 0, 1) := by decide +kernel
theorem dX0_hasRoomFor_18 : decode cX0_hasRoomFor 18 = .ok (.ireturn, 1) := by decide +kernel
theorem dX0_goBy_0 : decode cX0_goBy 0 = .ok (.aload_n 0, 1) := by decide +kernel
theorem dX0_goBy_1 : decode cX0_goBy 1 = .ok (.getfield 11, 3) := by decide +kernel
theorem dX0_goBy_4 : decode cX0_goBy 4 = .ok (.iconst 3, 1) := by decide +kernel
theorem dX0_goBy_5 : decode cX0_goBy 5 = .ok (.dup2, 1) := by decide +kernel
theorem dX0_goBy_6 : decode cX0_goBy 6 = .ok (.iaload, 1) := by decide +kernel
theorem dX0_goBy_7 : decode cX0_goBy 7 = .ok (.iload_n 1, 1) := by decide +kernel
theorem dX0_goBy_8 : decode cX0_goBy 8 = .ok (.iadd, 1) := by decide +kernel
theorem dX0_goBy_9 : decode cX0_goBy 9 = .ok (.iastore, 1) := by decide +kernel
theorem dX0_goBy_10 : decode cX0_goBy 10 = .ok (.return_, 1) := by decide +kernel
set_option maxRecDepth 20000 in
theorem ggX0_isUnderWay_X0_partOf : GoodIn wsX0_isUnderWay wsX0_partOf := goodIn_r _ [5] (by decide +kernel) (by decide +kernel)
set_option maxRecDepth 20000 in
theorem gX0_isUnderWay_X0_partOf : GoodIn wsX0_isUnderWay (va_wsS RX0 15 yX0_partOf wsX0_partOf) := goodIn_app (goodIn_of _ (by decide +kernel)) ggX0_isUnderWay_X0_partOf
theorem dX0_isUnderWay_0 : decode cX0_isUnderWay 0 = .ok (.aload_n 0, 1) := by decide +kernel
theorem dX0_isUnderWay_1 : decode cX0_isUnderWay 1 = .ok (.getfield 11, 3) := by decide +kernel
theorem dX0_isUnderWay_4 : decode cX0_isUnderWay 4 = .ok (.iload_n 1, 1) := by decide +kernel
theorem dX0_isUnderWay_5 : decode cX0_isUnderWay 5 = .ok (.invokestatic 15, 3) := by decide +kernel
theorem dX0_isUnderWay_8 : decode cX0_isUnderWay 8 = .ok (.iconst 0, 1) := by decide +kernel
theorem dX0_isUnderWay_9 : decode cX0_isUnderWay 9 = .ok (.iadd, 1) := by decide +kernel
theorem dX0_isUnderWay_10 : decode cX0_isUnderWay 10 = .ok (.iaload, 1) := by decide +kernel
theorem dX0_isUnderWay_11 : decode cX0_isUnderWay 11 = .ok (.ifCond .eq 7, 3) := by decide +kernel
theorem dX0_isUnderWay_14 : decode cX0_isUnderWay 14 = .ok (.iconst 1, 1) := by decide +kernel
theorem dX0_isUnderWay_15 : decode cX0_isUnderWay 15 = .ok (.goto 4, 3) := by decide +kernel
theorem dX0_isUnderWay_18 : decode cX0_isUnderWay 18 = .ok (.iconst 0, 1) := by decide +kernel
theorem dX0_isUnderWay_19 : decode cX0_isUnderWay 19 = .ok (.ireturn, 1) := by decide +kernel
set_option maxRecDepth 20000 in
theorem ggX0_isSure_X0_partOf : GoodIn wsX0_isSure wsX0_partOf := goodIn_r _ [5] (by decide +kernel) (by decide +kernel)
set_option maxRecDepth 20000 in
theorem gX0_isSure_X0_partOf : GoodIn wsX0_isSure (va_wsS RX0 15 yX0_partOf wsX0_partOf) := goodIn_app (goodIn_of _ (by decide +kernel)) ggX0_isSure_X0_partOf
theorem dX0_isSure_0 : decode cX0_isSure 0 = .ok (.aload_n 0, 1) := by decide +kernel
theorem dX0_isSure_1 : decode cX0_isSure 1 = .ok (.getfield 11, 3) := by decide +kernel
theorem dX0_isSure_4 : decode cX0_isSure 4 = .ok (.iload_n 1, 1) := by decide +kernel
theorem dX0_isSure_5 : decode cX0_isSure 5 = .ok (.invokestatic 15, 3) := by decide +kernel
theorem dX0_isSure_8 : decode cX0_isSure 8 = .ok (.iconst 3, 1) := by decide +kernel
theorem dX0_isSure_9 : decode cX0_isSure 9 = .ok (.iadd, 1) := by decide +kernel
theorem dX0_isSure_10 : decode cX0_isSure 10 = .ok (.iaload, 1) := by decide +kernel
theorem dX0_isSure_11 : decode cX0_isSure 11 = .ok (.ifCond .eq 7, 3) := by decide +kernel
theorem dX0_isSure_14 : decode cX0_isSure 14 = .ok (.iconst 1, 1) := by decide +kernel
theorem dX0_isSure_15 : decode cX0_isSure 15 = .ok (.goto 4, 3) := by decide +kernel
theorem dX0_isSure_18 : decode cX0_isSure 18 = .ok (.iconst 0, 1) := by decide +kernel
theorem dX0_isSure_19 : decode cX0_isSure 19 = .ok (.ireturn, 1) := by decide +kernel
set_option maxRecDepth 20000 in
theorem ggX0_placeOf_X0_partOf : GoodIn wsX0_placeOf wsX0_partOf := goodIn_r _ [5] (by decide +kernel) (by decide +kernel)
set_option maxRecDepth 20000 in
theorem gX0_placeOf_X0_partOf : GoodIn wsX0_placeOf (va_wsS RX0 15 yX0_partOf wsX0_partOf) := goodIn_app (goodIn_of _ (by decide +kernel)) ggX0_placeOf_X0_partOf
theorem dX0_placeOf_0 : decode cX0_placeOf 0 = .ok (.aload_n 0, 1) := by decide +kernel
theorem dX0_placeOf_1 : decode cX0_placeOf 1 = .ok (.getfield 11, 3) := by decide +kernel
theorem dX0_placeOf_4 : decode cX0_placeOf 4 = .ok (.iload_n 1, 1) := by decide +kernel
theorem dX0_placeOf_5 : decode cX0_placeOf 5 = .ok (.invokestatic 15, 3) := by decide +kernel
theorem dX0_placeOf_8 : decode cX0_placeOf 8 = .ok (.iconst 2, 1) := by decide +kernel
theorem dX0_placeOf_9 : decode cX0_placeOf 9 = .ok (.iadd, 1) := by decide +kernel
theorem dX0_placeOf_10 : decode cX0_placeOf 10 = .ok (.iaload, 1) := by decide +kernel
theorem dX0_placeOf_11 : decode cX0_placeOf 11 = .ok (.ireturn, 1) := by decide +kernel
set_option maxRecDepth 20000 in
theorem ggX0_ticksUnderWay_X0_partOf : GoodIn wsX0_ticksUnderWay wsX0_partOf := goodIn_r _ [5] (by decide +kernel) (by decide +kernel)
set_option maxRecDepth 20000 in
theorem gX0_ticksUnderWay_X0_partOf : GoodIn wsX0_ticksUnderWay (va_wsS RX0 15 yX0_partOf wsX0_partOf) := goodIn_app (goodIn_of _ (by decide +kernel)) ggX0_ticksUnderWay_X0_partOf
theorem dX0_ticksUnderWay_0 : decode cX0_ticksUnderWay 0 = .ok (.aload_n 0, 1) := by decide +kernel
theorem dX0_ticksUnderWay_1 : decode cX0_ticksUnderWay 1 = .ok (.getfield 11, 3) := by decide +kernel
theorem dX0_ticksUnderWay_4 : decode cX0_ticksUnderWay 4 = .ok (.iconst 3, 1) := by decide +kernel
theorem dX0_ticksUnderWay_5 : decode cX0_ticksUnderWay 5 = .ok (.iaload, 1) := by decide +kernel
theorem dX0_ticksUnderWay_6 : decode cX0_ticksUnderWay 6 = .ok (.aload_n 0, 1) := by decide +kernel
theorem dX0_ticksUnderWay_7 : decode cX0_ticksUnderWay 7 = .ok (.getfield 11, 3) := by decide +kernel
theorem dX0_ticksUnderWay_10 : decode cX0_ticksUnderWay 10 = .ok (.iload_n 1, 1) := by decide +kernel
theorem dX0_ticksUnderWay_11 : decode cX0_ticksUnderWay 11 = .ok (.invokestatic 15, 3) := by decide +kernel
theorem dX0_ticksUnderWay_14 : decode cX0_ticksUnderWay 14 = .ok (.iconst 1, 1) := by decide +kernel
theorem dX0_ticksUnderWay_15 : decode cX0_ticksUnderWay 15 = .ok (.iadd, 1) := by decide +kernel
theorem dX0_ticksUnderWay_16 : decode cX0_ticksUnderWay 16 = .ok (.iaload, 1) := by decide +kernel
theorem dX0_ticksUnderWay_17 : decode cX0_ticksUnderWay 17 = .ok (.isub, 1) := by decide +kernel
theorem dX0_ticksUnderWay_18 : decode cX0_ticksUnderWay 18 = .ok (.ireturn, 1) := by decide +kernel
set_option maxRecDepth 20000 in
theorem ggX0_isBlocked_X0_isUnderWay : GoodIn wsX0_isBlocked wsX0_isUnderWay := goodIn_r _ [6, 1, 7, 8, 5, 9, 14] (by decide +kernel) (by decide +kernel)
set_option maxRecDepth 20000 in
theorem gX0_isBlocked_X0_isUnderWay : GoodIn wsX0_isBlocked (wsV RX0 43 RX0 yX0_isUnderWay wsX0_isUnderWay) := goodIn_app (goodIn_of _ (by decide +kernel)) ggX0_isBlocked_X0_isUnderWay
set_option maxRecDepth 20000 in
theorem ggX0_isBlocked_X0_ticksUnderWay : GoodIn wsX0_isBlocked wsX0_ticksUnderWay := goodIn_r _ [13, 1, 7, 8, 5, 9, 14] (by decide +kernel) (by decide +kernel)
set_option maxRecDepth 20000 in
theorem gX0_isBlocked_X0_ticksUnderWay : GoodIn wsX0_isBlocked (wsV RX0 47 RX0 yX0_ticksUnderWay wsX0_ticksUnderWay) := goodIn_app (goodIn_of _ (by decide +kernel)) ggX0_isBlocked_X0_ticksUnderWay
theorem dX0_isBlocked_0 : decode cX0_isBlocked 0 = .ok (.aload_n 0, 1) := by decide +kernel
theorem dX0_isBlocked_1 : decode cX0_isBlocked 1 = .ok (.iload_n 1, 1) := by decide +kernel
theorem dX0_isBlocked_2 : decode cX0_isBlocked 2 = .ok (.invokevirtual 43, 3) := by decide +kernel
theorem dX0_isBlocked_5 : decode cX0_isBlocked 5 = .ok (.ifCond .eq 21, 3) := by decide +kernel
theorem dX0_isBlocked_8 : decode cX0_isBlocked 8 = .ok (.aload_n 0, 1) := by decide +kernel
theorem dX0_isBlocked_9 : decode cX0_isBlocked 9 = .ok (.iload_n 1, 1) := by decide +kernel
theorem dX0_isBlocked_10 : decode cX0_isBlocked 10 = .ok (.invokevirtual 47, 3) := by decide +kernel
theorem dX0_isBlocked_13 : decode cX0_isBlocked 13 = .ok (.aload_n 0, 1) := by decide +kernel
theorem dX0_isBlocked_14 : decode cX0_isBlocked 14 = .ok (.getfield 11, 3) := by decide +kernel
theorem dX0_isBlocked_17 : decode cX0_isBlocked 17 = .ok (.iconst 0, 1) := by decide +kernel
theorem dX0_isBlocked_18 : decode cX0_isBlocked 18 = .ok (.iaload, 1) := by decide +kernel
theorem dX0_isBlocked_19 : decode cX0_isBlocked 19 = .ok (.if_icmp .lt 7, 3) := by decide +kernel
theorem dX0_isBlocked_22 : decode cX0_isBlocked 22 = .ok (.iconst 1, 1) := by decide +kernel
theorem dX0_isBlocked_23 : decode cX0_isBlocked 23 = .ok (.goto 4, 3) := by decide +kernel
theorem dX0_isBlocked_26 : decode cX0_isBlocked 26 = .ok (.iconst 0, 1) := by decide +kernel
theorem dX0_isBlocked_27 : decode cX0_isBlocked 27 = .ok (.ireturn, 1) := by decide +kernel
set_option maxRecDepth 20000 in
theorem ggX0_blockedMask_X0_isBlocked : GoodIn wsX0_blockedMask wsX0_isBlocked := goodIn_r _ [5, 6, 7, 8, 9, 4, 10, 11, 12, 13, 14, 15, 16, 17, 18] (by decide +kernel) (by decide +kernel)
set_option maxRecDepth 20000 in
theorem gX0_blockedMask_X0_isBlocked : GoodIn wsX0_blockedMask (wsV RX0 50 RX0 yX0_isBlocked wsX0_isBlocked) := goodIn_app (goodIn_of _ (by decide +kernel)) ggX0_blockedMask_X0_isBlocked
theorem dX0_blockedMask_0 : decode cX0_blockedMask 0 = .ok (.iconst 0, 1) := by decide +kernel
theorem dX0_blockedMask_1 : decode cX0_blockedMask 1 = .ok (.istore_n 1, 1) := by decide +kernel
theorem dX0_blockedMask_2 : decode cX0_blockedMask 2 = .ok (.iconst 0, 1) := by decide +kernel
theorem dX0_blockedMask_3 : decode cX0_blockedMask 3 = .ok (.istore_n 2, 1) := by decide +kernel
theorem dX0_blockedMask_4 : decode cX0_blockedMask 4 = .ok (.iload_n 2, 1) := by decide +kernel
theorem dX0_blockedMask_5 : decode cX0_blockedMask 5 = .ok (.bipush 6, 2) := by decide +kernel
theorem dX0_blockedMask_7 : decode cX0_blockedMask 7 = .ok (.if_icmp .ge 23, 3) := by decide +kernel
theorem dX0_blockedMask_10 : decode cX0_blockedMask 10 = .ok (.aload_n 0, 1) := by decide +kernel
theorem dX0_blockedMask_11 : decode cX0_blockedMask 11 = .ok (.iload_n 2, 1) := by decide +kernel
theorem dX0_blockedMask_12 : decode cX0_blockedMask 12 = .ok (.invokevirtual 50, 3) := by decide +kernel
theorem dX0_blockedMask_15 : decode cX0_blockedMask 15 = .ok (.ifCond .eq 9, 3) := by decide +kernel
theorem dX0_blockedMask_18 : decode cX0_blockedMask 18 = .ok (.iload_n 1, 1) := by decide +kernel
theorem dX0_blockedMask_19 : decode cX0_blockedMask 19 = .ok (.iconst 1, 1) := by decide +kernel
theorem dX0_blockedMask_20 : decode cX0_blockedMask 20 = .ok (.iload_n 2, 1) := by decide +kernel
theorem dX0_blockedMask_21 : decode cX0_blockedMask 21 = .ok (.ishl, 1) := by decide +kernel
theorem dX0_blockedMask_22 : decode cX0_blockedMask 22 = .ok (.ior, 1) := by decide +kernel
theorem dX0_blockedMask_23 : decode cX0_blockedMask 23 = .ok (.istore_n 1, 1) := by decide +kernel
theorem dX0_blockedMask_24 : decode cX0_blockedMask 24 = .ok (.iinc 2 1, 3) := by decide +kernel
theorem dX0_blockedMask_27 : decode cX0_blockedMask 27 = .ok (.goto (-23), 3) := by decide +kernel
theorem dX0_blockedMask_30 : decode cX0_blockedMask 30 = .ok (.iload_n 1, 1) := by decide +kernel
theorem dX0_blockedMask_31 : decode cX0_blockedMask 31 = .ok (.ireturn, 1) := by decide +kernel
set_option maxRecDepth 20000 in
theorem ggX0_underWayMask_X0_isUnderWay : GoodIn wsX0_underWayMask wsX0_isUnderWay := goodIn_r _ [5, 6, 7, 8, 4, 9, 10] (by decide +kernel) (by decide +kernel)
set_option maxRecDepth 20000 in
theorem gX0_underWayMask_X0_isUnderWay : GoodIn wsX0_underWayMask (wsV RX0 43 RX0 yX0_isUnderWay wsX0_isUnderWay) := goodIn_app (goodIn_of _ (by decide +kernel)) ggX0_underWayMask_X0_isUnderWay
theorem dX0_underWayMask_0 : decode cX0_underWayMask 0 = .ok (.iconst 0, 1) := by decide +kernel
theorem dX0_underWayMask_1 : decode cX0_underWayMask 1 = .ok (.istore_n 1, 1) := by decide +kernel
theorem dX0_underWayMask_2 : decode cX0_underWayMask 2 = .ok (.iconst 0, 1) := by decide +kernel
theorem dX0_underWayMask_3 : decode cX0_underWayMask 3 = .ok (.istore_n 2, 1) := by decide +kernel
theorem dX0_underWayMask_4 : decode cX0_underWayMask 4 = .ok (.iload_n 2, 1) := by decide +kernel
theorem dX0_underWayMask_5 : decode cX0_underWayMask 5 = .ok (.bipush 6, 2) := by decide +kernel
theorem dX0_underWayMask_7 : decode cX0_underWayMask 7 = .ok (.if_icmp .ge 23, 3) := by decide +kernel
theorem dX0_underWayMask_10 : decode cX0_underWayMask 10 = .ok (.aload_n 0, 1) := by decide +kernel
theorem dX0_underWayMask_11 : decode cX0_underWayMask 11 = .ok (.iload_n 2, 1) := by decide +kernel
theorem dX0_underWayMask_12 : decode cX0_underWayMask 12 = .ok (.invokevirtual 43, 3) := by decide +kernel
theorem dX0_underWayMask_15 : decode cX0_underWayMask 15 = .ok (.ifCond .eq 9, 3) := by decide +kernel
theorem dX0_underWayMask_18 : decode cX0_underWayMask 18 = .ok (.iload_n 1, 1) := by decide +kernel
theorem dX0_underWayMask_19 : decode cX0_underWayMask 19 = .ok (.iconst 1, 1) := by decide +kernel
theorem dX0_underWayMask_20 : decode cX0_underWayMask 20 = .ok (.iload_n 2, 1) := by decide +kernel
theorem dX0_underWayMask_21 : decode cX0_underWayMask 21 = .ok (.ishl, 1) := by decide +kernel
theorem dX0_underWayMask_22 : decode cX0_underWayMask 22 = .ok (.ior, 1) := by decide +kernel
theorem dX0_underWayMask_23 : decode cX0_underWayMask 23 = .ok (.istore_n 1, 1) := by decide +kernel
theorem dX0_underWayMask_24 : decode cX0_underWayMask 24 = .ok (.iinc 2 1, 3) := by decide +kernel
theorem dX0_underWayMask_27 : decode cX0_underWayMask 27 = .ok (.goto (-23), 3) := by decide +kernel
theorem dX0_underWayMask_30 : decode cX0_underWayMask 30 = .ok (.iload_n 1, 1) := by decide +kernel
theorem dX0_underWayMask_31 : decode cX0_underWayMask 31 = .ok (.ireturn, 1) := by decide +kernel
set_option maxRecDepth 20000 in
theorem ggX0_sumOfGates_X0_partOf : GoodIn wsX0_sumOfGates wsX0_partOf := goodIn_r _ [5] (by decide +kernel) (by decide +kernel)
set_option maxRecDepth 20000 in
theorem gX0_sumOfGates_X0_partOf : GoodIn wsX0_sumOfGates (va_wsS RX0 15 yX0_partOf wsX0_partOf) := goodIn_app (goodIn_of _ (by decide +kernel)) ggX0_sumOfGates_X0_partOf
theorem dX0_sumOfGates_0 : decode cX0_sumOfGates 0 = .ok (.iconst 0, 1) := by decide +kernel
theorem dX0_sumOfGates_1 : decode cX0_sumOfGates 1 = .ok (.istore_n 2, 1) := by decide +kernel
theorem dX0_sumOfGates_2 : decode cX0_sumOfGates 2 = .ok (.iconst 0, 1) := by decide +kernel
theorem dX0_sumOfGates_3 : decode cX0_sumOfGates 3 = .ok (.istore_n 3, 1) := by decide +kernel
theorem dX0_sumOfGates_4 : decode cX0_sumOfGates 4 = .ok (.iload_n 3, 1) := by decide +kernel
theorem dX0_sumOfGates_5 : decode cX0_sumOfGates 5 = .ok (.bipush 6, 2) := by decide +kernel
theorem dX0_sumOfGates_7 : decode cX0_sumOfGates 7 = .ok (.if_icmp .ge 23, 3) := by decide +kernel
theorem dX0_sumOfGates_10 : decode cX0_sumOfGates 10 = .ok (.iload_n 2, 1) := by decide +kernel
theorem dX0_sumOfGates_11 : decode cX0_sumOfGates 11 = .ok (.aload_n 0, 1) := by decide +kernel
theorem dX0_sumOfGates_12 : decode cX0_sumOfGates 12 = .ok (.getfield 11, 3) := by decide +kernel
theorem dX0_sumOfGates_15 : decode cX0_sumOfGates 15 = .ok (.iload_n 3, 1) := by decide +kernel
theorem dX0_sumOfGates_16 : decode cX0_sumOfGates 16 = .ok (.invokestatic 15, 3) := by decide +kernel
theorem dX0_sumOfGates_19 : decode cX0_sumOfGates 19 = .ok (.iload_n 1, 1) := by decide +kernel
theorem dX0_sumOfGates_20 : decode cX0_sumOfGates 20 = .ok (.iadd, 1) := by decide +kernel
theorem dX0_sumOfGates_21 : decode cX0_sumOfGates 21 = .ok (.iaload, 1) := by decide +kernel
theorem dX0_sumOfGates_22 : decode cX0_sumOfGates 22 = .ok (.iadd, 1) := by decide +kernel
theorem dX0_sumOfGates_23 : decode cX0_sumOfGates 23 = .ok (.istore_n 2, 1) := by decide +kernel
theorem dX0_sumOfGates_24 : decode cX0_sumOfGates 24 = .ok (.iinc 3 1, 3) := by decide +kernel
theorem dX0_sumOfGates_27 : decode cX0_sumOfGates 27 = .ok (.goto (-23), 3) := by decide +kernel
theorem dX0_sumOfGates_30 : decode cX0_sumOfGates 30 = .ok (.iload_n 2, 1) := by decide +kernel
theorem dX0_sumOfGates_31 : decode cX0_sumOfGates 31 = .ok (.ireturn, 1) := by decide +kernel
set_option maxRecDepth 20000 in
theorem ggX0_passagesThrough_X0_partOf : GoodIn wsX0_passagesThrough wsX0_partOf := goodIn_r _ [5] (by decide +kernel) (by decide +kernel)
set_option maxRecDepth 20000 in
theorem gX0_passagesThrough_X0_partOf : GoodIn wsX0_passagesThrough (va_wsS RX0 15 yX0_partOf wsX0_partOf) := goodIn_app (goodIn_of _ (by decide +kernel)) ggX0_passagesThrough_X0_partOf
theorem dX0_passagesThrough_0 : decode cX0_passagesThrough 0 = .ok (.iload_n 1, 1) := by decide +kernel
theorem dX0_passagesThrough_1 : decode cX0_passagesThrough 1 = .ok (.invokestatic 15, 3) := by decide +kernel
theorem dX0_passagesThrough_4 : decode cX0_passagesThrough 4 = .ok (.istore_n 2, 1) := by decide +kernel
theorem dX0_passagesThrough_5 : decode cX0_passagesThrough 5 = .ok (.aload_n 0, 1) := by decide +kernel
theorem dX0_passagesThrough_6 : decode cX0_passagesThrough 6 = .ok (.getfield 11, 3) := by decide +kernel
theorem dX0_passagesThrough_9 : decode cX0_passagesThrough 9 = .ok (.iload_n 2, 1) := by decide +kernel
theorem dX0_passagesThrough_10 : decode cX0_passagesThrough 10 = .ok (.iconst 5, 1) := by decide +kernel
theorem dX0_passagesThrough_11 : decode cX0_passagesThrough 11 = .ok (.iadd, 1) := by decide +kernel
theorem dX0_passagesThrough_12 : decode cX0_passagesThrough 12 = .ok (.iaload, 1) := by decide +kernel
theorem dX0_passagesThrough_13 : decode cX0_passagesThrough 13 = .ok (.aload_n 0, 1) := by decide +kernel
theorem dX0_passagesThrough_14 : decode cX0_passagesThrough 14 = .ok (.getfield 11, 3) := by decide +kernel
theorem dX0_passagesThrough_17 : decode cX0_passagesThrough 17 = .ok (.iload_n 2, 1) := by decide +kernel
theorem dX0_passagesThrough_18 : decode cX0_passagesThrough 18 = .ok (.bipush 6, 2) := by decide +kernel
theorem dX0_passagesThrough_20 : decode cX0_passagesThrough 20 = .ok (.iadd, 1) := by decide +kernel
theorem dX0_passagesThrough_21 : decode cX0_passagesThrough 21 = .ok (.iaload, 1) := by decide +kernel
theorem dX0_passagesThrough_22 : decode cX0_passagesThrough 22 = .ok (.iadd, 1) := by decide +kernel
theorem dX0_passagesThrough_23 : decode cX0_passagesThrough 23 = .ok (.ireturn, 1) := by decide +kernel
set_option maxRecDepth 20000 in
theorem ggX0_tell_X0_isUnderWay : GoodIn wsX0_tell wsX0_isUnderWay := goodIn_r _ [6, 1, 7, 8, 5, 9, 26] (by decide +kernel) (by decide +kernel)
set_option maxRecDepth 20000 in
theorem gX0_tell_X0_isUnderWay : GoodIn wsX0_tell (wsV RX0 43 RX0 yX0_isUnderWay wsX0_isUnderWay) := goodIn_app (goodIn_of _ (by decide +kernel)) ggX0_tell_X0_isUnderWay
set_option maxRecDepth 20000 in
theorem ggX0_tell_X0_partOf : GoodIn wsX0_tell wsX0_partOf := goodIn_r _ [9] (by decide +kernel) (by decide +kernel)
set_option maxRecDepth 20000 in
theorem gX0_tell_X0_partOf : GoodIn wsX0_tell (va_wsS RX0 15 yX0_partOf wsX0_partOf) := goodIn_app (goodIn_of _ (by decide +kernel)) ggX0_tell_X0_partOf
set_option maxRecDepth 20000 in
theorem ggX0_tell_X0_isSure : GoodIn wsX0_tell wsX0_isSure := goodIn_r _ [13, 1, 7, 8, 5, 9, 26] (by decide +kernel) (by decide +kernel)
set_option maxRecDepth 20000 in
theorem gX0_tell_X0_isSure : GoodIn wsX0_tell (wsV RX0 53 RX0 yX0_isSure wsX0_isSure) := goodIn_app (goodIn_of _ (by decide +kernel)) ggX0_tell_X0_isSure
set_option maxRecDepth 20000 in
theorem ggX0_tell_X0_placeOf : GoodIn wsX0_tell wsX0_placeOf := goodIn_r _ [17, 1, 7, 8, 5, 9, 26] (by decide +kernel) (by decide +kernel)
set_option maxRecDepth 20000 in
theorem gX0_tell_X0_placeOf : GoodIn wsX0_tell (wsV RX0 56 RX0 yX0_placeOf wsX0_placeOf) := goodIn_app (goodIn_of _ (by decide +kernel)) ggX0_tell_X0_placeOf
set_option maxRecDepth 20000 in
theorem ggX0_tell_X0_isBlocked : GoodIn wsX0_tell wsX0_isBlocked := goodIn_r _ [21, 1, 2, 3, 4, 5, 6, 7, 8, 9, 22, 23, 24, 25, 26] (by decide +kernel) (by decide +kernel)
set_option maxRecDepth 20000 in
theorem gX0_tell_X0_isBlocked : GoodIn wsX0_tell (wsV RX0 50 RX0 yX0_isBlocked wsX0_isBlocked) := goodIn_app (goodIn_of _ (by decide +kernel)) ggX0_tell_X0_isBlocked
theorem dX0_tell_0 : decode cX0_tell 0 = .ok (.iload_n 2, 1) := by decide +kernel
theorem dX0_tell_1 : decode cX0_tell 1 = .ok (.tableswitch 124 1 4 #[31, 56, 85, 110], 31) := by decide +kernel
theorem dX0_tell_32 : decode cX0_tell 32 = .ok (.aload_n 0, 1) := by decide +kernel
theorem dX0_tell_33 : decode cX0_tell 33 = .ok (.iload_n 1, 1) := by decide +kernel
theorem dX0_tell_34 : decode cX0_tell 34 = .ok (.invokevirtual 43, 3) := by decide +kernel
theorem dX0_tell_37 : decode cX0_tell 37 = .ok (.ifCond .eq 17, 3) := by decide +kernel
theorem dX0_tell_40 : decode cX0_tell 40 = .ok (.aload_n 0, 1) := by decide +kernel
theorem dX0_tell_41 : decode cX0_tell 41 = .ok (.getfield 11, 3) := by decide +kernel
theorem dX0_tell_44 : decode cX0_tell 44 = .ok (.iload_n 1, 1) := by decide +kernel
theorem dX0_tell_45 : decode cX0_tell 45 = .ok (.invokestatic 15, 3) := by decide +kernel
theorem dX0_tell_48 : decode cX0_tell 48 = .ok (.iconst 1, 1) := by decide +kernel
theorem dX0_tell_49 : decode cX0_tell 49 = .ok (.iadd, 1) := by decide +kernel
theorem dX0_tell_50 : decode cX0_tell 50 = .ok (.iaload, 1) := by decide +kernel
theorem dX0_tell_51 : decode cX0_tell 51 = .ok (.goto 5, 3) := by decide +kernel
theorem dX0_tell_54 : decode cX0_tell 54 = .ok (.bipush (-6), 2) := by decide +kernel
theorem dX0_tell_56 : decode cX0_tell 56 = .ok (.ireturn, 1) := by decide +kernel
theorem dX0_tell_57 : decode cX0_tell 57 = .ok (.aload_n 0, 1) := by decide +kernel
theorem dX0_tell_58 : decode cX0_tell 58 = .ok (.iload_n 1, 1) := by decide +kernel
theorem dX0_tell_59 : decode cX0_tell 59 = .ok (.invokevirtual 43, 3) := by decide +kernel
theorem dX0_tell_62 : decode cX0_tell 62 = .ok (.ifCond .eq 21, 3) := by decide +kernel
theorem dX0_tell_65 : decode cX0_tell 65 = .ok (.aload_n 0, 1) := by decide +kernel
theorem dX0_tell_66 : decode cX0_tell 66 = .ok (.iload_n 1, 1) := by decide +kernel
theorem dX0_tell_67 : decode cX0_tell 67 = .ok (.invokevirtual 53, 3) := by decide +kernel
theorem dX0_tell_70 : decode cX0_tell 70 = .ok (.ifCond .eq 13, 3) := by decide +kernel
theorem dX0_tell_73 : decode cX0_tell 73 = .ok (.aload_n 0, 1) := by decide +kernel
theorem dX0_tell_74 : decode cX0_tell 74 = .ok (.iload_n 1, 1) := by decide +kernel
theorem dX0_tell_75 : decode cX0_tell 75 = .ok (.invokevirtual 56, 3) := by decide +kernel
theorem dX0_tell_78 : decode cX0_tell 78 = .ok (.iconst 4, 1) := by decide +kernel
theorem dX0_tell_79 : decode cX0_tell 79 = .ok (.iadd, 1) := by decide +kernel
theorem dX0_tell_80 : decode cX0_tell 80 = .ok (.goto 5, 3) := by decide +kernel
theorem dX0_tell_83 : decode cX0_tell 83 = .ok (.bipush (-6), 2) := by decide +kernel
theorem dX0_tell_85 : decode cX0_tell 85 = .ok (.ireturn, 1) := by decide +kernel
theorem dX0_tell_86 : decode cX0_tell 86 = .ok (.aload_n 0, 1) := by decide +kernel
theorem dX0_tell_87 : decode cX0_tell 87 = .ok (.iload_n 1, 1) := by decide +kernel
theorem dX0_tell_88 : decode cX0_tell 88 = .ok (.invokevirtual 43, 3) := by decide +kernel
theorem dX0_tell_91 : decode cX0_tell 91 = .ok (.ifCond .eq 17, 3) := by decide +kernel
theorem dX0_tell_94 : decode cX0_tell 94 = .ok (.aload_n 0, 1) := by decide +kernel
theorem dX0_tell_95 : decode cX0_tell 95 = .ok (.getfield 11, 3) := by decide +kernel
theorem dX0_tell_98 : decode cX0_tell 98 = .ok (.iload_n 1, 1) := by decide +kernel
theorem dX0_tell_99 : decode cX0_tell 99 = .ok (.invokestatic 15, 3) := by decide +kernel
theorem dX0_tell_102 : decode cX0_tell 102 = .ok (.iconst 3, 1) := by decide +kernel
theorem dX0_tell_103 : decode cX0_tell 103 = .ok (.iadd, 1) := by decide +kernel
theorem dX0_tell_104 : decode cX0_tell 104 = .ok (.iaload, 1) := by decide +kernel
theorem dX0_tell_105 : decode cX0_tell 105 = .ok (.goto 5, 3) := by decide +kernel
theorem dX0_tell_108 : decode cX0_tell 108 = .ok (.bipush (-6), 2) := by decide +kernel
theorem dX0_tell_110 : decode cX0_tell 110 = .ok (.ireturn, 1) := by decide +kernel
theorem dX0_tell_111 : decode cX0_tell 111 = .ok (.aload_n 0, 1) := by decide +kernel
theorem dX0_tell_112 : decode cX0_tell 112 = .ok (.iload_n 1, 1) := by decide +kernel
theorem dX0_tell_113 : decode cX0_tell 113 = .ok (.invokevirtual 50, 3) := by decide +kernel
theorem dX0_tell_116 : decode cX0_tell 116 = .ok (.ifCond .eq 7, 3) := by decide +kernel
theorem dX0_tell_119 : decode cX0_tell 119 = .ok (.iconst 1, 1) := by decide +kernel
theorem dX0_tell_120 : decode cX0_tell 120 = .ok (.goto 4, 3) := by decide +kernel
theorem dX0_tell_123 : decode cX0_tell 123 = .ok (.iconst 0, 1) := by decide +kernel
theorem dX0_tell_124 : decode cX0_tell 124 = .ok (.ireturn, 1) := by decide +kernel
theorem dX0_tell_125 : decode cX0_tell 125 = .ok (.aload_n 0, 1) := by decide +kernel
theorem dX0_tell_126 : decode cX0_tell 126 = .ok (.getfield 11, 3) := by decide +kernel
theorem dX0_tell_129 : decode cX0_tell 129 = .ok (.iload_n 1, 1) := by decide +kernel
theorem dX0_tell_130 : decode cX0_tell 130 = .ok (.invokestatic 15, 3) := by decide +kernel
theorem dX0_tell_133 : decode cX0_tell 133 = .ok (.iload_n 2, 1) := by decide +kernel
theorem dX0_tell_134 : decode cX0_tell 134 = .ok (.iadd, 1) := by decide +kernel
theorem dX0_tell_135 : decode cX0_tell 135 = .ok (.iaload, 1) := by decide +kernel
theorem dX0_tell_136 : decode cX0_tell 136 = .ok (.ireturn, 1) := by decide +kernel
theorem dX1_init_0 : decode cX1_init 0 = .ok (.aload_n 0, 1) := by decide +kernel
theorem dX1_init_1 : decode cX1_init 1 = .ok (.invokespecial 1, 3) := by decide +kernel
theorem dX1_init_4 : decode cX1_init 4 = .ok (.aload_n 0, 1) := by decide +kernel
theorem dX1_init_5 : decode cX1_init 5 = .ok (.bipush 6, 2) := by decide +kernel
theorem dX1_init_7 : decode cX1_init 7 = .ok (.bipush 86, 2) := by decide +kernel
theorem dX1_init_9 : decode cX1_init 9 = .ok (.multianewarray 11 2, 4) := by decide +kernel
theorem dX1_init_13 : decode cX1_init 13 = .ok (.putfield 13, 3) := by decide +kernel
theorem dX1_init_16 : decode cX1_init 16 = .ok (.aload_n 0, 1) := by decide +kernel
theorem dX1_init_17 : decode cX1_init 17 = .ok (.iconst 0, 1) := by decide +kernel
theorem dX1_init_18 : decode cX1_init 18 = .ok (.putfield 16, 3) := by decide +kernel
theorem dX1_init_21 : decode cX1_init 21 = .ok (.aload_n 0, 1) := by decide +kernel
theorem dX1_init_22 : decode cX1_init 22 = .ok (.iconst 0, 1) := by decide +kernel
theorem dX1_init_23 : decode cX1_init 23 = .ok (.putfield 20, 3) := by decide +kernel
theorem dX1_init_26 : decode cX1_init 26 = .ok (.return_, 1) := by decide +kernel
set_option maxRecDepth 20000 in
theorem ggX1_keep_X3_copyRow : GoodIn wsX1_keep wsX3_copyRow := goodIn_r _ [10, 11, 12, 13, 14] (by decide +kernel) (by decide +kernel)
set_option maxRecDepth 20000 in
theorem gX1_keep_X3_copyRow_n23 : GoodIn wsX1_keep (wsX3_copyRow) := ggX1_keep_X3_copyRow
theorem dX1_keep_0 : decode cX1_keep 0 = .ok (.aload_n 1, 1) := by decide +kernel
theorem dX1_keep_1 : decode cX1_keep 1 = .ok (.aload_n 0, 1) := by decide +kernel
theorem dX1_keep_2 : decode cX1_keep 2 = .ok (.getfield 13, 3) := by decide +kernel
theorem dX1_keep_5 : decode cX1_keep 5 = .ok (.aload_n 0, 1) := by decide +kernel
theorem dX1_keep_6 : decode cX1_keep 6 = .ok (.getfield 16, 3) := by decide +kernel
theorem dX1_keep_9 : decode cX1_keep 9 = .ok (.aaload, 1) := by decide +kernel
theorem dX1_keep_10 : decode cX1_keep 10 = .ok (.invokestatic 23, 3) := by decide +kernel
theorem dX1_keep_13 : decode cX1_keep 13 = .ok (.aload_n 0, 1) := by decide +kernel
theorem dX1_keep_14 : decode cX1_keep 14 = .ok (.aload_n 0, 1) := by decide +kernel
theorem dX1_keep_15 : decode cX1_keep 15 = .ok (.getfield 16, 3) := by decide +kernel
theorem dX1_keep_18 : decode cX1_keep 18 = .ok (.iconst 1, 1) := by decide +kernel
theorem dX1_keep_19 : decode cX1_keep 19 = .ok (.iadd, 1) := by decide +kernel
theorem dX1_keep_20 : decode cX1_keep 20 = .ok (.bipush 6, 2) := by decide +kernel
theorem dX1_keep_22 : decode cX1_keep 22 = .ok (.if_icmp .ge 12, 3) := by decide +kernel
theorem dX1_keep_25 : decode cX1_keep 25 = .ok (.aload_n 0, 1) := by decide +kernel
theorem dX1_keep_26 : decode cX1_keep 26 = .ok (.getfield 16, 3) := by decide +kernel
theorem dX1_keep_29 : decode cX1_keep 29 = .ok (.iconst 1, 1) := by decide +kernel
theorem dX1_keep_30 : decode cX1_keep 30 = .ok (.iadd, 1) := by decide +kernel
theorem dX1_keep_31 : decode cX1_keep 31 = .ok (.goto 4, 3) := by decide +kernel
theorem dX1_keep_34 : decode cX1_keep 34 = .ok (.iconst 0, 1) := by decide +kernel
theorem dX1_keep_35 : decode cX1_keep 35 = .ok (.putfield 16, 3) := by decide +kernel
theorem dX1_keep_38 : decode cX1_keep 38 = .ok (.aload_n 0, 1) := by decide +kernel
theorem dX1_keep_39 : decode cX1_keep 39 = .ok (.aload_n 0, 1) := by decide +kernel
theorem dX1_keep_40 : decode cX1_keep 40 = .ok (.getfield 20, 3) := by decide +kernel
theorem dX1_keep_43 : decode cX1_keep 43 = .ok (.iconst 1, 1) := by decide +kernel
theorem dX1_keep_44 : decode cX1_keep 44 = .ok (.iadd, 1) := by decide +kernel
theorem dX1_keep_45 : decode cX1_keep 45 = .ok (.bipush 6, 2) := by decide +kernel
theorem dX1_keep_47 : decode cX1_keep 47 = .ok (.invokestatic 29, 3) := by decide +kernel
theorem dX1_keep_50 : decode cX1_keep 50 = .ok (.putfield 20, 3) := by decide +kernel
theorem dX1_keep_53 : decode cX1_keep 53 = .ok (.return_, 1) := by decide +kernel
theorem dJ6_bitCount_0f7a4_0 : decode cJ6_bitCount_0f7a4 0 = .ok (.iload_n 0, 1) := by decide +kernel
theorem dJ6_bitCount_0f7a4_1 : decode cJ6_bitCount_0f7a4 1 = .ok (.iload_n 0, 1) := by decide +kernel
theorem dJ6_bitCount_0f7a4_2 : decode cJ6_bitCount_0f7a4 2 = .ok (.iconst 1, 1) := by decide +kernel
theorem dJ6_bitCount_0f7a4_3 : decode cJ6_bitCount_0f7a4 3 = .ok (.iushr, 1) := by decide +kernel
theorem dJ6_bitCount_0f7a4_4 : decode cJ6_bitCount_0f7a4 4 = .ok (.ldc_w 265, 3) := by decide +kernel
theorem dJ6_bitCount_0f7a4_7 : decode cJ6_bitCount_0f7a4 7 = .ok (.iand, 1) := by decide +kernel
theorem dJ6_bitCount_0f7a4_8 : decode cJ6_bitCount_0f7a4 8 = .ok (.isub, 1) := by decide +kernel
theorem dJ6_bitCount_0f7a4_9 : decode cJ6_bitCount_0f7a4 9 = .ok (.istore_n 0, 1) := by decide +kernel
theorem dJ6_bitCount_0f7a4_10 : decode cJ6_bitCount_0f7a4 10 = .ok (.iload_n 0, 1) := by decide +kernel
theorem dJ6_bitCount_0f7a4_11 : decode cJ6_bitCount_0f7a4 11 = .ok (.ldc_w 266, 3) := by decide +kernel
theorem dJ6_bitCount_0f7a4_14 : decode cJ6_bitCount_0f7a4 14 = .ok (.iand, 1) := by decide +kernel
theorem dJ6_bitCount_0f7a4_15 : decode cJ6_bitCount_0f7a4 15 = .ok (.iload_n 0, 1) := by decide +kernel
theorem dJ6_bitCount_0f7a4_16 : decode cJ6_bitCount_0f7a4 16 = .ok (.iconst 2, 1) := by decide +kernel
theorem dJ6_bitCount_0f7a4_17 : decode cJ6_bitCount_0f7a4 17 = .ok (.iushr, 1) := by decide +kernel
theorem dJ6_bitCount_0f7a4_18 : decode cJ6_bitCount_0f7a4 18 = .ok (.ldc_w 266, 3) := by decide +kernel
theorem dJ6_bitCount_0f7a4_21 : decode cJ6_bitCount_0f7a4 21 = .ok (.iand, 1) := by decide +kernel
theorem dJ6_bitCount_0f7a4_22 : decode cJ6_bitCount_0f7a4 22 = .ok (.iadd, 1) := by decide +kernel
theorem dJ6_bitCount_0f7a4_23 : decode cJ6_bitCount_0f7a4 23 = .ok (.istore_n 0, 1) := by decide +kernel
theorem dJ6_bitCount_0f7a4_24 : decode cJ6_bitCount_0f7a4 24 = .ok (.iload_n 0, 1) := by decide +kernel
theorem dJ6_bitCount_0f7a4_25 : decode cJ6_bitCount_0f7a4 25 = .ok (.iload_n 0, 1) := by decide +kernel
theorem dJ6_bitCount_0f7a4_26 : decode cJ6_bitCount_0f7a4 26 = .ok (.iconst 4, 1) := by decide +kernel
theorem dJ6_bitCount_0f7a4_27 : decode cJ6_bitCount_0f7a4 27 = .ok (.iushr, 1) := by decide +kernel
theorem dJ6_bitCount_0f7a4_28 : decode cJ6_bitCount_0f7a4 28 = .ok (.iadd, 1) := by decide +kernel
theorem dJ6_bitCount_0f7a4_29 : decode cJ6_bitCount_0f7a4 29 = .ok (.ldc_w 267, 3) := by decide +kernel
theorem dJ6_bitCount_0f7a4_32 : decode cJ6_bitCount_0f7a4 32 = .ok (.iand, 1) := by decide +kernel
theorem dJ6_bitCount_0f7a4_33 : decode cJ6_bitCount_0f7a4 33 = .ok (.istore_n 0, 1) := by decide +kernel
theorem dJ6_bitCount_0f7a4_34 : decode cJ6_bitCount_0f7a4 34 = .ok (.iload_n 0, 1) := by decide +kernel
theorem dJ6_bitCount_0f7a4_35 : decode cJ6_bitCount_0f7a4 35 = .ok (.iload_n 0, 1) := by decide +kernel
theorem dJ6_bitCount_0f7a4_36 : decode cJ6_bitCount_0f7a4 36 = .ok (.bipush 8, 2) := by decide +kernel
theorem dJ6_bitCount_0f7a4_38 : decode cJ6_bitCount_0f7a4 38 = .ok (.iushr, 1) := by decide +kernel
theorem dJ6_bitCount_0f7a4_39 : decode cJ6_bitCount_0f7a4 39 = .ok (.iadd, 1) := by decide +kernel
theorem dJ6_bitCount_0f7a4_40 : decode cJ6_bitCount_0f7a4 40 = .ok (.istore_n 0, 1) := by decide +kernel
theorem dJ6_bitCount_0f7a4_41 : decode cJ6_bitCount_0f7a4 41 = .ok (.iload_n 0, 1) := by decide +kernel
theorem dJ6_bitCount_0f7a4_42 : decode cJ6_bitCount_0f7a4 42 = .ok (.iload_n 0, 1) := by decide +kernel
theorem dJ6_bitCount_0f7a4_43 : decode cJ6_bitCount_0f7a4 43 = .ok (.bipush 16, 2) := by decide +kernel
theorem dJ6_bitCount_0f7a4_45 : decode cJ6_bitCount_0f7a4 45 = .ok (.iushr, 1) := by decide +kernel
theorem dJ6_bitCount_0f7a4_46 : decode cJ6_bitCount_0f7a4 46 = .ok (.iadd, 1) := by decide +kernel
theorem dJ6_bitCount_0f7a4_47 : decode cJ6_bitCount_0f7a4 47 = .ok (.istore_n 0, 1) := by decide +kernel
theorem dJ6_bitCount_0f7a4_48 : decode cJ6_bitCount_0f7a4 48 = .ok (.iload_n 0, 1) := by decide +kernel
theorem dJ6_bitCount_0f7a4_49 : decode cJ6_bitCount_0f7a4 49 = .ok (.bipush 63, 2) := by decide +kernel
theorem dJ6_bitCount_0f7a4_51 : decode cJ6_bitCount_0f7a4 51 = .ok (.iand, 1) := by decide +kernel
theorem dJ6_bitCount_0f7a4_52 : decode cJ6_bitCount_0f7a4 52 = .ok (.ireturn, 1) := by decide +kernel
theorem dJ9_abs_0f7a4_0 : decode cJ9_abs_0f7a4 0 = .ok (.iload_n 0, 1) := by decide +kernel
theorem dJ9_abs_0f7a4_1 : decode cJ9_abs_0f7a4 1 = .ok (.ifCond .ge 8, 3) := by decide +kernel
theorem dJ9_abs_0f7a4_4 : decode cJ9_abs_0f7a4 4 = .ok (.iload_n 0, 1) := by decide +kernel
theorem dJ9_abs_0f7a4_5 : decode cJ9_abs_0f7a4 5 = .ok (.ineg, 1) := by decide +kernel
theorem dJ9_abs_0f7a4_6 : decode cJ9_abs_0f7a4 6 = .ok (.goto 4, 3) := by decide +kernel
theorem dJ9_abs_0f7a4_9 : decode cJ9_abs_0f7a4 9 = .ok (.iload_n 0, 1) := by decide +kernel
theorem dJ9_abs_0f7a4_10 : decode cJ9_abs_0f7a4 10 = .ok (.ireturn, 1) := by decide +kernel
theorem dJ9_min_7cf53_0 : decode cJ9_min_7cf53 0 = .ok (.iload_n 0, 1) := by decide +kernel
theorem dJ9_min_7cf53_1 : decode cJ9_min_7cf53 1 = .ok (.iload_n 1, 1) := by decide +kernel
theorem dJ9_min_7cf53_2 : decode cJ9_min_7cf53 2 = .ok (.if_icmp .gt 7, 3) := by decide +kernel
theorem dJ9_min_7cf53_5 : decode cJ9_min_7cf53 5 = .ok (.iload_n 0, 1) := by decide +kernel
theorem dJ9_min_7cf53_6 : decode cJ9_min_7cf53 6 = .ok (.goto 4, 3) := by decide +kernel
theorem dJ9_min_7cf53_9 : decode cJ9_min_7cf53 9 = .ok (.iload_n 1, 1) := by decide +kernel
theorem dJ9_min_7cf53_10 : decode cJ9_min_7cf53 10 = .ok (.ireturn, 1) := by decide +kernel
