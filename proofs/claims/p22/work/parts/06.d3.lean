set_option maxRecDepth 20000 in
theorem ggX3_init_X0_init : GoodIn wsX3_init wsX0_init := goodIn_r _ [24, 25, 2, 3, 18, 26, 27, 28, 6, 29, 43] (by decide +kernel) (by decide +kernel)
set_option maxRecDepth 20000 in
theorem gX3_init_X0_init : GoodIn wsX3_init (wsX0_init) := ggX3_init_X0_init
set_option maxRecDepth 20000 in
theorem ggX3_init_X2_init : GoodIn wsX3_init wsX2_init := goodIn_r _ [31, 32, 2, 3, 33, 34, 35, 50, 51] (by decide +kernel) (by decide +kernel)
set_option maxRecDepth 20000 in
theorem gX3_init_X2_init_n21 : GoodIn wsX3_init (wsX2_init) := ggX3_init_X2_init
set_option maxRecDepth 20000 in
theorem ggX3_init_X1_init : GoodIn wsX3_init wsX1_init := goodIn_r _ [37, 38, 2, 3, 39, 18, 40, 41, 42, 52, 53, 54] (by decide +kernel) (by decide +kernel)
set_option maxRecDepth 20000 in
theorem gX3_init_X1_init_n28 : GoodIn wsX3_init (wsX1_init) := ggX3_init_X1_init
theorem dX3_init_0 : decode cX3_init 0 = .ok (.aload_n 0, 1) := by decide +kernel
theorem dX3_init_1 : decode cX3_init 1 = .ok (.invokespecial 1, 3) := by decide +kernel
theorem dX3_init_4 : decode cX3_init 4 = .ok (.aload_n 0, 1) := by decide +kernel
theorem dX3_init_5 : decode cX3_init 5 = .ok (.new 7, 3) := by decide +kernel
theorem dX3_init_8 : decode cX3_init 8 = .ok (.dup, 1) := by decide +kernel
theorem dX3_init_9 : decode cX3_init 9 = .ok (.invokespecial 9, 3) := by decide +kernel
theorem dX3_init_12 : decode cX3_init 12 = .ok (.putfield 10, 3) := by decide +kernel
theorem dX3_init_15 : decode cX3_init 15 = .ok (.aload_n 0, 1) := by decide +kernel
theorem dX3_init_16 : decode cX3_init 16 = .ok (.new 7, 3) := by decide +kernel
theorem dX3_init_19 : decode cX3_init 19 = .ok (.dup, 1) := by decide +kernel
theorem dX3_init_20 : decode cX3_init 20 = .ok (.invokespecial 9, 3) := by decide +kernel
theorem dX3_init_23 : decode cX3_init 23 = .ok (.putfield 16, 3) := by decide +kernel
theorem dX3_init_26 : decode cX3_init 26 = .ok (.aload_n 0, 1) := by decide +kernel
theorem dX3_init_27 : decode cX3_init 27 = .ok (.new 19, 3) := by decide +kernel
theorem dX3_init_30 : decode cX3_init 30 = .ok (.dup, 1) := by decide +kernel
theorem dX3_init_31 : decode cX3_init 31 = .ok (.invokespecial 21, 3) := by decide +kernel
theorem dX3_init_34 : decode cX3_init 34 = .ok (.putfield 22, 3) := by decide +kernel
theorem dX3_init_37 : decode cX3_init 37 = .ok (.aload_n 0, 1) := by decide +kernel
theorem dX3_init_38 : decode cX3_init 38 = .ok (.new 26, 3) := by decide +kernel
theorem dX3_init_41 : decode cX3_init 41 = .ok (.dup, 1) := by decide +kernel
theorem dX3_init_42 : decode cX3_init 42 = .ok (.invokespecial 28, 3) := by decide +kernel
theorem dX3_init_45 : decode cX3_init 45 = .ok (.putfield 29, 3) := by decide +kernel
theorem dX3_init_48 : decode cX3_init 48 = .ok (.aload_n 0, 1) := by decide +kernel
theorem dX3_init_49 : decode cX3_init 49 = .ok (.iconst 2, 1) := by decide +kernel
theorem dX3_init_50 : decode cX3_init 50 = .ok (.bipush 86, 2) := by decide +kernel
theorem dX3_init_52 : decode cX3_init 52 = .ok (.multianewarray 33 2, 4) := by decide +kernel
theorem dX3_init_56 : decode cX3_init 56 = .ok (.putfield 35, 3) := by decide +kernel
theorem dX3_init_59 : decode cX3_init 59 = .ok (.aload_n 0, 1) := by decide +kernel
theorem dX3_init_60 : decode cX3_init 60 = .ok (.iconst 2, 1) := by decide +kernel
theorem dX3_init_61 : decode cX3_init 61 = .ok (.newarray .boolean, 2) := by decide +kernel
theorem dX3_init_63 : decode cX3_init 63 = .ok (.putfield 38, 3) := by decide +kernel
theorem dX3_init_66 : decode cX3_init 66 = .ok (.return_, 1) := by decide +kernel
set_option maxRecDepth 20000 in
theorem ggX3_set_X1_keep : GoodIn wsX3_set wsX1_keep := goodIn_r _ [10, 11, 12, 13, 14, 15, 16, 17, 18, 19, 20, 21, 22, 23, 24, 32, 33, 34] (by decide +kernel) (by decide +kernel)
set_option maxRecDepth 20000 in
theorem gX3_set_X1_keep : GoodIn wsX3_set (wsV RX3 52 RX1 yX1_keep wsX1_keep) := goodIn_app (goodIn_of _ (by decide +kernel)) ggX3_set_X1_keep
theorem dX3_set_0 : decode cX3_set 0 = .ok (.iload_n 1, 1) := by decide +kernel
theorem dX3_set_1 : decode cX3_set 1 = .ok (.ifCond .lt 8, 3) := by decide +kernel
theorem dX3_set_4 : decode cX3_set 4 = .ok (.iload_n 1, 1) := by decide +kernel
theorem dX3_set_5 : decode cX3_set 5 = .ok (.iconst 3, 1) := by decide +kernel
theorem dX3_set_6 : decode cX3_set 6 = .ok (.if_icmp .lt 6, 3) := by decide +kernel
theorem dX3_set_9 : decode cX3_set 9 = .ok (.bipush (-2), 2) := by decide +kernel
theorem dX3_set_11 : decode cX3_set 11 = .ok (.ireturn, 1) := by decide +kernel
theorem dX3_set_12 : decode cX3_set 12 = .ok (.iload_n 2, 1) := by decide +kernel
theorem dX3_set_13 : decode cX3_set 13 = .ok (.getstatic 42, 3) := by decide +kernel
theorem dX3_set_16 : decode cX3_set 16 = .ok (.iload_n 1, 1) := by decide +kernel
theorem dX3_set_17 : decode cX3_set 17 = .ok (.iaload, 1) := by decide +kernel
theorem dX3_set_18 : decode cX3_set 18 = .ok (.if_icmp .lt 12, 3) := by decide +kernel
theorem dX3_set_21 : decode cX3_set 21 = .ok (.iload_n 2, 1) := by decide +kernel
theorem dX3_set_22 : decode cX3_set 22 = .ok (.getstatic 46, 3) := by decide +kernel
theorem dX3_set_25 : decode cX3_set 25 = .ok (.iload_n 1, 1) := by decide +kernel
theorem dX3_set_26 : decode cX3_set 26 = .ok (.iaload, 1) := by decide +kernel
theorem dX3_set_27 : decode cX3_set 27 = .ok (.if_icmp .le 6, 3) := by decide +kernel
theorem dX3_set_30 : decode cX3_set 30 = .ok (.bipush (-2), 2) := by decide +kernel
theorem dX3_set_32 : decode cX3_set 32 = .ok (.ireturn, 1) := by decide +kernel
theorem dX3_set_33 : decode cX3_set 33 = .ok (.aload_n 0, 1) := by decide +kernel
theorem dX3_set_34 : decode cX3_set 34 = .ok (.getfield 29, 3) := by decide +kernel
theorem dX3_set_37 : decode cX3_set 37 = .ok (.aload_n 0, 1) := by decide +kernel
theorem dX3_set_38 : decode cX3_set 38 = .ok (.getfield 10, 3) := by decide +kernel
theorem dX3_set_41 : decode cX3_set 41 = .ok (.getfield 49, 3) := by decide +kernel
theorem dX3_set_44 : decode cX3_set 44 = .ok (.invokevirtual 52, 3) := by decide +kernel
theorem dX3_set_47 : decode cX3_set 47 = .ok (.aload_n 0, 1) := by decide +kernel
theorem dX3_set_48 : decode cX3_set 48 = .ok (.getfield 10, 3) := by decide +kernel
theorem dX3_set_51 : decode cX3_set 51 = .ok (.getfield 49, 3) := by decide +kernel
theorem dX3_set_54 : decode cX3_set 54 = .ok (.iload_n 1, 1) := by decide +kernel
theorem dX3_set_55 : decode cX3_set 55 = .ok (.iaload, 1) := by decide +kernel
theorem dX3_set_56 : decode cX3_set 56 = .ok (.istore_n 3, 1) := by decide +kernel
theorem dX3_set_57 : decode cX3_set 57 = .ok (.aload_n 0, 1) := by decide +kernel
theorem dX3_set_58 : decode cX3_set 58 = .ok (.getfield 10, 3) := by decide +kernel
theorem dX3_set_61 : decode cX3_set 61 = .ok (.getfield 49, 3) := by decide +kernel
theorem dX3_set_64 : decode cX3_set 64 = .ok (.iload_n 1, 1) := by decide +kernel
theorem dX3_set_65 : decode cX3_set 65 = .ok (.iload_n 2, 1) := by decide +kernel
theorem dX3_set_66 : decode cX3_set 66 = .ok (.iastore, 1) := by decide +kernel
theorem dX3_set_67 : decode cX3_set 67 = .ok (.iload_n 3, 1) := by decide +kernel
theorem dX3_set_68 : decode cX3_set 68 = .ok (.ireturn, 1) := by decide +kernel
set_option maxRecDepth 20000 in
theorem ggX3_event_X3_isNoGate : GoodIn wsX3_event wsX3_isNoGate := goodIn_r _ [7] (by decide +kernel) (by decide +kernel)
set_option maxRecDepth 20000 in
theorem gX3_event_X3_isNoGate : GoodIn wsX3_event (va_wsS RX3 56 yX3_isNoGate wsX3_isNoGate) := goodIn_app (goodIn_of _ (by decide +kernel)) ggX3_event_X3_isNoGate
set_option maxRecDepth 20000 in
theorem ggX3_event_X1_keep : GoodIn wsX3_event wsX1_keep := goodIn_r _ [12, 13, 14, 15, 16, 17, 18, 19, 20, 6, 21, 22, 23, 24, 25, 67, 68, 69] (by decide +kernel) (by decide +kernel)
set_option maxRecDepth 20000 in
theorem gX3_event_X1_keep : GoodIn wsX3_event (wsV RX3 52 RX1 yX1_keep wsX1_keep) := goodIn_app (goodIn_of _ (by decide +kernel)) ggX3_event_X1_keep
set_option maxRecDepth 20000 in
theorem ggX3_event_X0_change : GoodIn wsX3_event wsX0_change := goodIn_r _ [30, 31, 32, 33, 34, 29, 35, 36, 37, 38, 39, 40, 41, 42, 43, 44, 45, 46, 47, 48, 49, 50, 51, 52, 53, 54, 55, 56, 57, 58, 59, 66] (by decide +kernel) (by decide +kernel)
set_option maxRecDepth 20000 in
theorem gX3_event_X0_change : GoodIn wsX3_event (wsV RX3 60 RX0 yX0_change wsX0_change) := goodIn_app (goodIn_of _ (by decide +kernel)) ggX3_event_X0_change
theorem dX3_event_0 : decode cX3_event 0 = .ok (.iload_n 1, 1) := by decide +kernel
theorem dX3_event_1 : decode cX3_event 1 = .ok (.invokestatic 56, 3) := by decide +kernel
theorem dX3_event_4 : decode cX3_event 4 = .ok (.ifCond .eq 5, 3) := by decide +kernel
theorem dX3_event_7 : decode cX3_event 7 = .ok (.iconst (-1), 1) := by decide +kernel
theorem dX3_event_8 : decode cX3_event 8 = .ok (.ireturn, 1) := by decide +kernel
theorem dX3_event_9 : decode cX3_event 9 = .ok (.iload_n 2, 1) := by decide +kernel
theorem dX3_event_10 : decode cX3_event 10 = .ok (.ifCond .lt 8, 3) := by decide +kernel
theorem dX3_event_13 : decode cX3_event 13 = .ok (.iload_n 2, 1) := by decide +kernel
theorem dX3_event_14 : decode cX3_event 14 = .ok (.iconst 3, 1) := by decide +kernel
theorem dX3_event_15 : decode cX3_event 15 = .ok (.if_icmp .lt 6, 3) := by decide +kernel
theorem dX3_event_18 : decode cX3_event 18 = .ok (.bipush (-2), 2) := by decide +kernel
theorem dX3_event_20 : decode cX3_event 20 = .ok (.ireturn, 1) := by decide +kernel
theorem dX3_event_21 : decode cX3_event 21 = .ok (.aload_n 0, 1) := by decide +kernel
theorem dX3_event_22 : decode cX3_event 22 = .ok (.getfield 29, 3) := by decide +kernel
theorem dX3_event_25 : decode cX3_event 25 = .ok (.aload_n 0, 1) := by decide +kernel
theorem dX3_event_26 : decode cX3_event 26 = .ok (.getfield 10, 3) := by decide +kernel
theorem dX3_event_29 : decode cX3_event 29 = .ok (.getfield 49, 3) := by decide +kernel
theorem dX3_event_32 : decode cX3_event 32 = .ok (.invokevirtual 52, 3) := by decide +kernel
theorem dX3_event_35 : decode cX3_event 35 = .ok (.aload_n 0, 1) := by decide +kernel
theorem dX3_event_36 : decode cX3_event 36 = .ok (.getfield 10, 3) := by decide +kernel
theorem dX3_event_39 : decode cX3_event 39 = .ok (.iload_n 1, 1) := by decide +kernel
theorem dX3_event_40 : decode cX3_event 40 = .ok (.iload_n 2, 1) := by decide +kernel
theorem dX3_event_41 : decode cX3_event 41 = .ok (.invokevirtual 60, 3) := by decide +kernel
theorem dX3_event_44 : decode cX3_event 44 = .ok (.ireturn, 1) := by decide +kernel
set_option maxRecDepth 20000 in
theorem ggX3_pass_X0_hasRoomFor : GoodIn wsX3_pass wsX0_hasRoomFor := goodIn_r _ [8, 9, 10, 66] (by decide +kernel) (by decide +kernel)
set_option maxRecDepth 20000 in
theorem gX3_pass_X0_hasRoomFor : GoodIn wsX3_pass (wsV RX3 64 RX0 yX0_hasRoomFor wsX0_hasRoomFor) := goodIn_app (goodIn_of _ (by decide +kernel)) ggX3_pass_X0_hasRoomFor
set_option maxRecDepth 20000 in
theorem ggX3_pass_X1_keep : GoodIn wsX3_pass wsX1_keep := goodIn_r _ [15, 16, 17, 18, 19, 20, 21, 22, 23, 24, 25, 26, 27, 28, 29, 67, 68, 69] (by decide +kernel) (by decide +kernel)
set_option maxRecDepth 20000 in
theorem gX3_pass_X1_keep : GoodIn wsX3_pass (wsV RX3 52 RX1 yX1_keep wsX1_keep) := goodIn_app (goodIn_of _ (by decide +kernel)) ggX3_pass_X1_keep
set_option maxRecDepth 20000 in
theorem ggX3_pass_X0_goBy : GoodIn wsX3_pass wsX0_goBy := goodIn_r _ [33, 9, 66] (by decide +kernel) (by decide +kernel)
set_option maxRecDepth 20000 in
theorem gX3_pass_X0_goBy : GoodIn wsX3_pass (wsV RX3 67 RX0 yX0_goBy wsX0_goBy) := goodIn_app (goodIn_of _ (by decide +kernel)) ggX3_pass_X0_goBy
set_option maxRecDepth 20000 in
theorem ggX3_pass_X0_blockedMask : GoodIn wsX3_pass wsX0_blockedMask := goodIn_r _ [37, 38, 39, 40, 7, 41, 9, 42, 43, 44, 45, 46, 47, 48, 49, 50, 51, 52, 66] (by decide +kernel) (by decide +kernel)
set_option maxRecDepth 20000 in
theorem gX3_pass_X0_blockedMask : GoodIn wsX3_pass (wsV RX3 71 RX0 yX0_blockedMask wsX0_blockedMask) := goodIn_app (goodIn_of _ (by decide +kernel)) ggX3_pass_X0_blockedMask
set_option maxRecDepth 20000 in
theorem ggX3_pass_J6_bitCount_0f7a4 : GoodIn wsX3_pass wsJ6_bitCount_0f7a4 := goodIn_r _ [56, 57, 58, 59] (by decide +kernel) (by decide +kernel)
set_option maxRecDepth 20000 in
theorem gX3_pass_J6_bitCount_0f7a4 : GoodIn wsX3_pass (va_wsS RX3 75 yJ6_bitCount_0f7a4 wsJ6_bitCount_0f7a4) := goodIn_app (goodIn_of _ (by decide +kernel)) ggX3_pass_J6_bitCount_0f7a4
theorem dX3_pass_0 : decode cX3_pass 0 = .ok (.iload_n 1, 1) := by decide +kernel
theorem dX3_pass_1 : decode cX3_pass 1 = .ok (.iconst 1, 1) := by decide +kernel
theorem dX3_pass_2 : decode cX3_pass 2 = .ok (.if_icmp .lt 10, 3) := by decide +kernel
theorem dX3_pass_5 : decode cX3_pass 5 = .ok (.iload_n 1, 1) := by decide +kernel
theorem dX3_pass_6 : decode cX3_pass 6 = .ok (.sipush 999, 3) := by decide +kernel
theorem dX3_pass_9 : decode cX3_pass 9 = .ok (.if_icmp .le 6, 3) := by decide +kernel
theorem dX3_pass_12 : decode cX3_pass 12 = .ok (.bipush (-2), 2) := by decide +kernel
theorem dX3_pass_14 : decode cX3_pass 14 = .ok (.ireturn, 1) := by decide +kernel
theorem dX3_pass_15 : decode cX3_pass 15 = .ok (.aload_n 0, 1) := by decide +kernel
theorem dX3_pass_16 : decode cX3_pass 16 = .ok (.getfield 10, 3) := by decide +kernel
theorem dX3_pass_19 : decode cX3_pass 19 = .ok (.iload_n 1, 1) := by decide +kernel
theorem dX3_pass_20 : decode cX3_pass 20 = .ok (.invokevirtual 64, 3) := by decide +kernel
theorem dX3_pass_23 : decode cX3_pass 23 = .ok (.ifCond .ne 6, 3) := by decide +kernel
theorem dX3_pass_26 : decode cX3_pass 26 = .ok (.bipush (-4), 2) := by decide +kernel
theorem dX3_pass_28 : decode cX3_pass 28 = .ok (.ireturn, 1) := by decide +kernel
theorem dX3_pass_29 : decode cX3_pass 29 = .ok (.aload_n 0, 1) := by decide +kernel
theorem dX3_pass_30 : decode cX3_pass 30 = .ok (.getfield 29, 3) := by decide +kernel
theorem dX3_pass_33 : decode cX3_pass 33 = .ok (.aload_n 0, 1) := by decide +kernel
theorem dX3_pass_34 : decode cX3_pass 34 = .ok (.getfield 10, 3) := by decide +kernel
theorem dX3_pass_37 : decode cX3_pass 37 = .ok (.getfield 49, 3) := by decide +kernel
theorem dX3_pass_40 : decode cX3_pass 40 = .ok (.invokevirtual 52, 3) := by decide +kernel
theorem dX3_pass_43 : decode cX3_pass 43 = .ok (.aload_n 0, 1) := by decide +kernel
theorem dX3_pass_44 : decode cX3_pass 44 = .ok (.getfield 10, 3) := by decide +kernel
theorem dX3_pass_47 : decode cX3_pass 47 = .ok (.iload_n 1, 1) := by decide +kernel
theorem dX3_pass_48 : decode cX3_pass 48 = .ok (.invokevirtual 67, 3) := by decide +kernel
theorem dX3_pass_51 : decode cX3_pass 51 = .ok (.aload_n 0, 1) := by decide +kernel
theorem dX3_pass_52 : decode cX3_pass 52 = .ok (.getfield 10, 3) := by decide +kernel
theorem dX3_pass_55 : decode cX3_pass 55 = .ok (.invokevirtual 71, 3) := by decide +kernel
theorem dX3_pass_58 : decode cX3_pass 58 = .ok (.invokestatic 75, 3) := by decide +kernel
theorem dX3_pass_61 : decode cX3_pass 61 = .ok (.ireturn, 1) := by decide +kernel
set_option maxRecDepth 20000 in
theorem ggX3_read_X2_firstFault : GoodIn wsX3_read wsX2_firstFault := goodIn_r _ [9, 10, 11, 12, 13, 8, 14, 15, 16, 17, 18, 19, 20, 21, 22, 23, 24, 25, 26, 117, 118] (by decide +kernel) (by decide +kernel)
set_option maxRecDepth 20000 in
theorem gX3_read_X2_firstFault : GoodIn wsX3_read (wsV RX3 81 RX2 yX2_firstFault wsX2_firstFault) := goodIn_app (goodIn_of _ (by decide +kernel)) ggX3_read_X2_firstFault
set_option maxRecDepth 20000 in
theorem ggX3_read_X1_keep : GoodIn wsX3_read wsX1_keep := goodIn_r _ [31, 32, 33, 34, 35, 36, 37, 38, 39, 40, 41, 42, 43, 44, 45, 119, 120, 121] (by decide +kernel) (by decide +kernel)
set_option maxRecDepth 20000 in
theorem gX3_read_X1_keep : GoodIn wsX3_read (wsV RX3 52 RX1 yX1_keep wsX1_keep) := goodIn_app (goodIn_of _ (by decide +kernel)) ggX3_read_X1_keep
set_option maxRecDepth 20000 in
theorem ggX3_read_X2_happenIn : GoodIn wsX3_read wsX2_happenIn := goodIn_r _ [49, 10, 11, 50, 51, 52, 8, 53, 54, 55, 56, 57, 58, 59, 60, 61, 62, 63, 64, 65, 66, 67, 68, 69, 70, 71, 72, 40, 73, 18, 19, 20, 74, 75, 76, 77, 78, 79, 80, 81, 82, 83, 84, 85, 86, 87, 88, 89, 90, 91, 92, 93, 94, 95, 96, 97, 98, 99, 100, 101, 102, 103, 104, 105, 117, 118, 116] (by decide +kernel) (by decide +kernel)
set_option maxRecDepth 20000 in
theorem gX3_read_X2_happenIn : GoodIn wsX3_read (wsV RX3 84 RX2 yX2_happenIn wsX2_happenIn) := goodIn_app (goodIn_of _ (by decide +kernel)) ggX3_read_X2_happenIn
set_option maxRecDepth 20000 in
theorem ggX3_read_X2_empty : GoodIn wsX3_read wsX2_empty := goodIn_r _ [109, 10, 117, 118] (by decide +kernel) (by decide +kernel)
set_option maxRecDepth 20000 in
theorem gX3_read_X2_empty : GoodIn wsX3_read (wsV RX3 88 RX2 yX2_empty wsX2_empty) := goodIn_app (goodIn_of _ (by decide +kernel)) ggX3_read_X2_empty
theorem dX3_read_0 : decode cX3_read 0 = .ok (.aload_n 0, 1) := by decide +kernel
theorem dX3_read_1 : decode cX3_read 1 = .ok (.getfield 22, 3) := by decide +kernel
theorem dX3_read_4 : decode cX3_read 4 = .ok (.invokevirtual 81, 3) := by decide +kernel
theorem dX3_read_7 : decode cX3_read 7 = .ok (.bipush (-6), 2) := by decide +kernel
theorem dX3_read_9 : decode cX3_read 9 = .ok (.if_icmp .eq 6, 3) := by decide +kernel
theorem dX3_read_12 : decode cX3_read 12 = .ok (.bipush (-3), 2) := by decide +kernel
theorem dX3_read_14 : decode cX3_read 14 = .ok (.ireturn, 1) := by decide +kernel
theorem dX3_read_15 : decode cX3_read 15 = .ok (.aload_n 0, 1) := by decide +kernel
theorem dX3_read_16 : decode cX3_read 16 = .ok (.getfield 29, 3) := by decide +kernel
theorem dX3_read_19 : decode cX3_read 19 = .ok (.aload_n 0, 1) := by decide +kernel
theorem dX3_read_20 : decode cX3_read 20 = .ok (.getfield 10, 3) := by decide +kernel
theorem dX3_read_23 : decode cX3_read 23 = .ok (.getfield 49, 3) := by decide +kernel
theorem dX3_read_26 : decode cX3_read 26 = .ok (.invokevirtual 52, 3) := by decide +kernel
theorem dX3_read_29 : decode cX3_read 29 = .ok (.aload_n 0, 1) := by decide +kernel
theorem dX3_read_30 : decode cX3_read 30 = .ok (.getfield 22, 3) := by decide +kernel
theorem dX3_read_33 : decode cX3_read 33 = .ok (.aload_n 0, 1) := by decide +kernel
theorem dX3_read_34 : decode cX3_read 34 = .ok (.getfield 10, 3) := by decide +kernel
theorem dX3_read_37 : decode cX3_read 37 = .ok (.invokevirtual 84, 3) := by decide +kernel
theorem dX3_read_40 : decode cX3_read 40 = .ok (.istore_n 1, 1) := by decide +kernel
theorem dX3_read_41 : decode cX3_read 41 = .ok (.aload_n 0, 1) := by decide +kernel
theorem dX3_read_42 : decode cX3_read 42 = .ok (.getfield 22, 3) := by decide +kernel
theorem dX3_read_45 : decode cX3_read 45 = .ok (.invokevirtual 88, 3) := by decide +kernel
theorem dX3_read_48 : decode cX3_read 48 = .ok (.iload_n 1, 1) := by decide +kernel
theorem dX3_read_49 : decode cX3_read 49 = .ok (.ireturn, 1) := by decide +kernel
set_option maxRecDepth 20000 in
theorem ggX3_correct_X1_keep : GoodIn wsX3_correct wsX1_keep := goodIn_r _ [8, 9, 10, 11, 12, 13, 14, 15, 16, 17, 18, 19, 20, 21, 22, 36, 37, 38] (by decide +kernel) (by decide +kernel)
set_option maxRecDepth 20000 in
theorem gX3_correct_X1_keep : GoodIn wsX3_correct (wsV RX3 52 RX1 yX1_keep wsX1_keep) := goodIn_app (goodIn_of _ (by decide +kernel)) ggX3_correct_X1_keep
set_option maxRecDepth 20000 in
theorem ggX3_correct_X0_becomeInside : GoodIn wsX3_correct wsX0_becomeInside := goodIn_r _ [27, 28, 35] (by decide +kernel) (by decide +kernel)
set_option maxRecDepth 20000 in
theorem gX3_correct_X0_becomeInside : GoodIn wsX3_correct (wsV RX3 91 RX0 yX0_becomeInside wsX0_becomeInside) := goodIn_app (goodIn_of _ (by decide +kernel)) ggX3_correct_X0_becomeInside
theorem dX3_correct_0 : decode cX3_correct 0 = .ok (.iload_n 1, 1) := by decide +kernel
theorem dX3_correct_1 : decode cX3_correct 1 = .ok (.ifCond .lt 10, 3) := by decide +kernel
theorem dX3_correct_4 : decode cX3_correct 4 = .ok (.iload_n 1, 1) := by decide +kernel
theorem dX3_correct_5 : decode cX3_correct 5 = .ok (.sipush 999, 3) := by decide +kernel
theorem dX3_correct_8 : decode cX3_correct 8 = .ok (.if_icmp .le 6, 3) := by decide +kernel
theorem dX3_correct_11 : decode cX3_correct 11 = .ok (.bipush (-2), 2) := by decide +kernel
theorem dX3_correct_13 : decode cX3_correct 13 = .ok (.ireturn, 1) := by decide +kernel
theorem dX3_correct_14 : decode cX3_correct 14 = .ok (.aload_n 0, 1) := by decide +kernel
theorem dX3_correct_15 : decode cX3_correct 15 = .ok (.getfield 29, 3) := by decide +kernel
theorem dX3_correct_18 : decode cX3_correct 18 = .ok (.aload_n 0, 1) := by decide +kernel
theorem dX3_correct_19 : decode cX3_correct 19 = .ok (.getfield 10, 3) := by decide +kernel
theorem dX3_correct_22 : decode cX3_correct 22 = .ok (.getfield 49, 3) := by decide +kernel
theorem dX3_correct_25 : decode cX3_correct 25 = .ok (.invokevirtual 52, 3) := by decide +kernel
theorem dX3_correct_28 : decode cX3_correct 28 = .ok (.aload_n 0, 1) := by decide +kernel
theorem dX3_correct_29 : decode cX3_correct 29 = .ok (.getfield 10, 3) := by decide +kernel
theorem dX3_correct_32 : decode cX3_correct 32 = .ok (.getfield 49, 3) := by decide +kernel
theorem dX3_correct_35 : decode cX3_correct 35 = .ok (.iconst 4, 1) := by decide +kernel
theorem dX3_correct_36 : decode cX3_correct 36 = .ok (.iaload, 1) := by decide +kernel
theorem dX3_correct_37 : decode cX3_correct 37 = .ok (.istore_n 2, 1) := by decide +kernel
theorem dX3_correct_38 : decode cX3_correct 38 = .ok (.aload_n 0, 1) := by decide +kernel
theorem dX3_correct_39 : decode cX3_correct 39 = .ok (.getfield 10, 3) := by decide +kernel
theorem dX3_correct_42 : decode cX3_correct 42 = .ok (.iload_n 1, 1) := by decide +kernel
theorem dX3_correct_43 : decode cX3_correct 43 = .ok (.invokevirtual 91, 3) := by decide +kernel
theorem dX3_correct_46 : decode cX3_correct 46 = .ok (.iload_n 2, 1) := by decide +kernel
theorem dX3_correct_47 : decode cX3_correct 47 = .ok (.ireturn, 1) := by decide +kernel
set_option maxRecDepth 20000 in
theorem ggX3_clear_X3_isNoGate : GoodIn wsX3_clear wsX3_isNoGate := goodIn_r _ [7] (by decide +kernel) (by decide +kernel)
set_option maxRecDepth 20000 in
theorem gX3_clear_X3_isNoGate : GoodIn wsX3_clear (va_wsS RX3 56 yX3_isNoGate wsX3_isNoGate) := goodIn_app (goodIn_of _ (by decide +kernel)) ggX3_clear_X3_isNoGate
set_option maxRecDepth 20000 in
theorem ggX3_clear_X0_isUnderWay : GoodIn wsX3_clear wsX0_isUnderWay := goodIn_r _ [12, 13, 14, 15, 11, 16, 65] (by decide +kernel) (by decide +kernel)
set_option maxRecDepth 20000 in
theorem gX3_clear_X0_isUnderWay : GoodIn wsX3_clear (wsV RX3 94 RX0 yX0_isUnderWay wsX0_isUnderWay) := goodIn_app (goodIn_of _ (by decide +kernel)) ggX3_clear_X0_isUnderWay
set_option maxRecDepth 20000 in
theorem ggX3_clear_X1_keep : GoodIn wsX3_clear wsX1_keep := goodIn_r _ [21, 22, 23, 24, 25, 26, 27, 28, 29, 6, 30, 31, 32, 33, 34, 66, 67, 68] (by decide +kernel) (by decide +kernel)
set_option maxRecDepth 20000 in
theorem gX3_clear_X1_keep : GoodIn wsX3_clear (wsV RX3 52 RX1 yX1_keep wsX1_keep) := goodIn_app (goodIn_of _ (by decide +kernel)) ggX3_clear_X1_keep
set_option maxRecDepth 20000 in
theorem ggX3_clear_X0_free : GoodIn wsX3_clear wsX0_free := goodIn_r _ [38, 13, 14, 15, 11, 16, 39, 40, 41, 42, 43, 44, 45, 46, 47, 48, 49, 50, 51, 52, 53, 54, 55, 56, 57, 58, 65] (by decide +kernel) (by decide +kernel)
set_option maxRecDepth 20000 in
theorem gX3_clear_X0_free : GoodIn wsX3_clear (wsV RX3 97 RX0 yX0_free wsX0_free) := goodIn_app (goodIn_of _ (by decide +kernel)) ggX3_clear_X0_free
theorem dX3_clear_0 : decode cX3_clear 0 = .ok (.iload_n 1, 1) := by decide +kernel
theorem dX3_clear_1 : decode cX3_clear 1 = .ok (.invokestatic 56, 3) := by decide +kernel
theorem dX3_clear_4 : decode cX3_clear 4 = .ok (.ifCond .eq 5, 3) := by decide +kernel
theorem dX3_clear_7 : decode cX3_clear 7 = .ok (.iconst (-1), 1) := by decide +kernel
theorem dX3_clear_8 : decode cX3_clear 8 = .ok (.ireturn, 1) := by decide +kernel
theorem dX3_clear_9 : decode cX3_clear 9 = .ok (.aload_n 0, 1) := by decide +kernel
theorem dX3_clear_10 : decode cX3_clear 10 = .ok (.getfield 10, 3) := by decide +kernel
theorem dX3_clear_13 : decode cX3_clear 13 = .ok (.iload_n 1, 1) := by decide +kernel
theorem dX3_clear_14 : decode cX3_clear 14 = .ok (.invokevirtual 94, 3) := by decide +kernel
theorem dX3_clear_17 : decode cX3_clear 17 = .ok (.ifCond .ne 6, 3) := by decide +kernel
theorem dX3_clear_20 : decode cX3_clear 20 = .ok (.bipush (-5), 2) := by decide +kernel
theorem dX3_clear_22 : decode cX3_clear 22 = .ok (.ireturn, 1) := by decide +kernel
theorem dX3_clear_23 : decode cX3_clear 23 = .ok (.aload_n 0, 1) := by decide +kernel
theorem dX3_clear_24 : decode cX3_clear 24 = .ok (.getfield 29, 3) := by decide +kernel
theorem dX3_clear_27 : decode cX3_clear 27 = .ok (.aload_n 0, 1) := by decide +kernel
theorem dX3_clear_28 : decode cX3_clear 28 = .ok (.getfield 10, 3) := by decide +kernel
theorem dX3_clear_31 : decode cX3_clear 31 = .ok (.getfield 49, 3) := by decide +kernel
theorem dX3_clear_34 : decode cX3_clear 34 = .ok (.invokevirtual 52, 3) := by decide +kernel
theorem dX3_clear_37 : decode cX3_clear 37 = .ok (.aload_n 0, 1) := by decide +kernel
theorem dX3_clear_38 : decode cX3_clear 38 = .ok (.getfield 10, 3) := by decide +kernel
theorem dX3_clear_41 : decode cX3_clear 41 = .ok (.iload_n 1, 1) := by decide +kernel
theorem dX3_clear_42 : decode cX3_clear 42 = .ok (.invokevirtual 97, 3) := by decide +kernel
theorem dX3_clear_45 : decode cX3_clear 45 = .ok (.ireturn, 1) := by decide +kernel
set_option maxRecDepth 20000 in
theorem ggX3_gate_X3_isNoGate : GoodIn wsX3_gate wsX3_isNoGate := goodIn_r _ [5] (by decide +kernel) (by decide +kernel)
set_option maxRecDepth 20000 in
theorem gX3_gate_X3_isNoGate : GoodIn wsX3_gate (va_wsS RX3 56 yX3_isNoGate wsX3_isNoGate) := goodIn_app (goodIn_of _ (by decide +kernel)) ggX3_gate_X3_isNoGate
set_option maxRecDepth 20000 in
theorem ggX3_gate_X0_tell : GoodIn wsX3_gate wsX0_tell := goodIn_r _ [10, 11, 12, 13, 14, 9, 15, 16, 17, 18, 19, 20, 21, 22, 23, 24, 25, 26, 27, 28, 29, 30, 31, 32, 33, 34, 41] (by decide +kernel) (by decide +kernel)
set_option maxRecDepth 20000 in
theorem gX3_gate_X0_tell : GoodIn wsX3_gate (wsV RX3 100 RX0 yX0_tell wsX0_tell) := goodIn_app (goodIn_of _ (by decide +kernel)) ggX3_gate_X0_tell
theorem dX3_gate_0 : decode cX3_gate 0 = .ok (.iload_n 1, 1) := by decide +kernel
theorem dX3_gate_1 : decode cX3_gate 1 = .ok (.invokestatic 56, 3) := by decide +kernel
theorem dX3_gate_4 : decode cX3_gate 4 = .ok (.ifCond .eq 5, 3) := by decide +kernel
theorem dX3_gate_7 : decode cX3_gate 7 = .ok (.iconst (-1), 1) := by decide +kernel
theorem dX3_gate_8 : decode cX3_gate 8 = .ok (.ireturn, 1) := by decide +kernel
theorem dX3_gate_9 : decode cX3_gate 9 = .ok (.iload_n 2, 1) := by decide +kernel
theorem dX3_gate_10 : decode cX3_gate 10 = .ok (.ifCond .lt 9, 3) := by decide +kernel
theorem dX3_gate_13 : decode cX3_gate 13 = .ok (.iload_n 2, 1) := by decide +kernel
theorem dX3_gate_14 : decode cX3_gate 14 = .ok (.bipush 13, 2) := by decide +kernel
theorem dX3_gate_16 : decode cX3_gate 16 = .ok (.if_icmp .lt 6, 3) := by decide +kernel
theorem dX3_gate_19 : decode cX3_gate 19 = .ok (.bipush (-2), 2) := by decide +kernel
theorem dX3_gate_21 : decode cX3_gate 21 = .ok (.ireturn, 1) := by decide +kernel
theorem dX3_gate_22 : decode cX3_gate 22 = .ok (.aload_n 0, 1) := by decide +kernel
theorem dX3_gate_23 : decode cX3_gate 23 = .ok (.getfield 10, 3) := by decide +kernel
theorem dX3_gate_26 : decode cX3_gate 26 = .ok (.iload_n 1, 1) := by decide +kernel
theorem dX3_gate_27 : decode cX3_gate 27 = .ok (.iload_n 2, 1) := by decide +kernel
theorem dX3_gate_28 : decode cX3_gate 28 = .ok (.invokevirtual 100, 3) := by decide +kernel
theorem dX3_gate_31 : decode cX3_gate 31 = .ok (.ireturn, 1) := by decide +kernel
set_option maxRecDepth 20000 in
theorem ggX3_count_X0_blockedMask : GoodIn wsX3_count wsX0_blockedMask := goodIn_r _ [11, 12, 13, 14, 10, 15, 16, 17, 18, 19, 20, 21, 22, 23, 24, 25, 26, 27, 42] (by decide +kernel) (by decide +kernel)
set_option maxRecDepth 20000 in
theorem gX3_count_X0_blockedMask : GoodIn wsX3_count (wsV RX3 71 RX0 yX0_blockedMask wsX0_blockedMask) := goodIn_app (goodIn_of _ (by decide +kernel)) ggX3_count_X0_blockedMask
set_option maxRecDepth 20000 in
theorem ggX3_count_X0_underWayMask : GoodIn wsX3_count wsX0_underWayMask := goodIn_r _ [31, 17, 18, 19, 10, 20, 16, 21, 22, 23, 42] (by decide +kernel) (by decide +kernel)
set_option maxRecDepth 20000 in
theorem gX3_count_X0_underWayMask : GoodIn wsX3_count (wsV RX3 103 RX0 yX0_underWayMask wsX0_underWayMask) := goodIn_app (goodIn_of _ (by decide +kernel)) ggX3_count_X0_underWayMask
set_option maxRecDepth 20000 in
theorem ggX3_count_X0_sumOfGates : GoodIn wsX3_count wsX0_sumOfGates := goodIn_r _ [35, 16, 21, 22, 10, 23, 42] (by decide +kernel) (by decide +kernel)
set_option maxRecDepth 20000 in
theorem gX3_count_X0_sumOfGates : GoodIn wsX3_count (wsV RX3 113 RX0 yX0_sumOfGates wsX0_sumOfGates) := goodIn_app (goodIn_of _ (by decide +kernel)) ggX3_count_X0_sumOfGates
theorem dX3_count_0 : decode cX3_count 0 = .ok (.iload_n 1, 1) := by decide +kernel
theorem dX3_count_1 : decode cX3_count 1 = .ok (.ifCond .lt 9, 3) := by decide +kernel
theorem dX3_count_4 : decode cX3_count 4 = .ok (.iload_n 1, 1) := by decide +kernel
theorem dX3_count_5 : decode cX3_count 5 = .ok (.bipush 18, 2) := by decide +kernel
theorem dX3_count_7 : decode cX3_count 7 = .ok (.if_icmp .lt 6, 3) := by decide +kernel
theorem dX3_count_10 : decode cX3_count 10 = .ok (.bipush (-2), 2) := by decide +kernel
theorem dX3_count_12 : decode cX3_count 12 = .ok (.ireturn, 1) := by decide +kernel
theorem dX3_count_13 : decode cX3_count 13 = .ok (.iload_n 1, 1) := by decide +kernel
theorem dX3_count_14 : decode cX3_count 14 = .ok (.bipush 8, 2) := by decide +kernel
theorem dX3_count_16 : decode cX3_count 16 = .ok (.if_icmp .ge 13, 3) := by decide +kernel
theorem dX3_count_19 : decode cX3_count 19 = .ok (.aload_n 0, 1) := by decide +kernel
theorem dX3_count_20 : decode cX3_count 20 = .ok (.getfield 10, 3) := by decide +kernel
theorem dX3_count_23 : decode cX3_count 23 = .ok (.getfield 49, 3) := by decide +kernel
theorem dX3_count_26 : decode cX3_count 26 = .ok (.iload_n 1, 1) := by decide +kernel
theorem dX3_count_27 : decode cX3_count 27 = .ok (.iaload, 1) := by decide +kernel
theorem dX3_count_28 : decode cX3_count 28 = .ok (.ireturn, 1) := by decide +kernel
theorem dX3_count_29 : decode cX3_count 29 = .ok (.iload_n 1, 1) := by decide +kernel
theorem dX3_count_30 : decode cX3_count 30 = .ok (.tableswitch 62 14 17 #[30, 38, 46, 54], 30) := by decide +kernel
theorem dX3_count_60 : decode cX3_count 60 = .ok (.aload_n 0, 1) := by decide +kernel
theorem dX3_count_61 : decode cX3_count 61 = .ok (.getfield 10, 3) := by decide +kernel
theorem dX3_count_64 : decode cX3_count 64 = .ok (.invokevirtual 71, 3) := by decide +kernel
theorem dX3_count_67 : decode cX3_count 67 = .ok (.ireturn, 1) := by decide +kernel
theorem dX3_count_68 : decode cX3_count 68 = .ok (.aload_n 0, 1) := by decide +kernel
theorem dX3_count_69 : decode cX3_count 69 = .ok (.getfield 10, 3) := by decide +kernel
theorem dX3_count_72 : decode cX3_count 72 = .ok (.invokevirtual 103, 3) := by decide +kernel
theorem dX3_count_75 : decode cX3_count 75 = .ok (.ireturn, 1) := by decide +kernel
theorem dX3_count_76 : decode cX3_count 76 = .ok (.aload_n 0, 1) := by decide +kernel
theorem dX3_count_77 : decode cX3_count 77 = .ok (.getfield 22, 3) := by decide +kernel
theorem dX3_count_80 : decode cX3_count 80 = .ok (.getfield 106, 3) := by decide +kernel
theorem dX3_count_83 : decode cX3_count 83 = .ok (.ireturn, 1) := by decide +kernel
theorem dX3_count_84 : decode cX3_count 84 = .ok (.aload_n 0, 1) := by decide +kernel
theorem dX3_count_85 : decode cX3_count 85 = .ok (.getfield 29, 3) := by decide +kernel
theorem dX3_count_88 : decode cX3_count 88 = .ok (.getfield 110, 3) := by decide +kernel
theorem dX3_count_91 : decode cX3_count 91 = .ok (.ireturn, 1) := by decide +kernel
theorem dX3_count_92 : decode cX3_count 92 = .ok (.aload_n 0, 1) := by decide +kernel
theorem dX3_count_93 : decode cX3_count 93 = .ok (.getfield 10, 3) := by decide +kernel
theorem dX3_count_96 : decode cX3_count 96 = .ok (.iload_n 1, 1) := by decide +kernel
theorem dX3_count_97 : decode cX3_count 97 = .ok (.bipush 8, 2) := by decide +kernel
theorem dX3_count_99 : decode cX3_count 99 = .ok (.isub, 1) := by decide +kernel
theorem dX3_count_100 : decode cX3_count 100 = .ok (.iconst 5, 1) := by decide +kernel
theorem dX3_count_101 : decode cX3_count 101 = .ok (.iadd, 1) := by decide +kernel
theorem dX3_count_102 : decode cX3_count 102 = .ok (.invokevirtual 113, 3) := by decide +kernel
theorem dX3_count_105 : decode cX3_count 105 = .ok (.ireturn, 1) := by decide +kernel
set_option maxRecDepth 20000 in
theorem ggX3_mean_X3_isNoGate : GoodIn wsX3_mean wsX3_isNoGate := goodIn_r _ [5] (by decide +kernel) (by decide +kernel)
set_option maxRecDepth 20000 in
theorem gX3_mean_X3_isNoGate : GoodIn wsX3_mean (va_wsS RX3 56 yX3_isNoGate wsX3_isNoGate) := goodIn_app (goodIn_of _ (by decide +kernel)) ggX3_mean_X3_isNoGate
set_option maxRecDepth 20000 in
theorem ggX3_mean_X0_passagesThrough : GoodIn wsX3_mean wsX0_passagesThrough := goodIn_r _ [10, 11, 12, 13, 9, 14, 45] (by decide +kernel) (by decide +kernel)
set_option maxRecDepth 20000 in
theorem gX3_mean_X0_passagesThrough : GoodIn wsX3_mean (wsV RX3 116 RX0 yX0_passagesThrough wsX0_passagesThrough) := goodIn_app (goodIn_of _ (by decide +kernel)) ggX3_mean_X0_passagesThrough
set_option maxRecDepth 20000 in
theorem ggX3_mean_X0_tell : GoodIn wsX3_mean wsX0_tell := goodIn_r _ [18, 11, 19, 20, 21, 9, 22, 12, 13, 14, 23, 24, 25, 26, 27, 28, 29, 30, 31, 32, 33, 34, 35, 36, 37, 38, 45] (by decide +kernel) (by decide +kernel)
set_option maxRecDepth 20000 in
theorem gX3_mean_X0_tell : GoodIn wsX3_mean (wsV RX3 100 RX0 yX0_tell wsX0_tell) := goodIn_app (goodIn_of _ (by decide +kernel)) ggX3_mean_X0_tell
theorem dX3_mean_0 : decode cX3_mean 0 = .ok (.iload_n 1, 1) := by decide +kernel
theorem dX3_mean_1 : decode cX3_mean 1 = .ok (.invokestatic 56, 3) := by decide +kernel
theorem dX3_mean_4 : decode cX3_mean 4 = .ok (.ifCond .eq 5, 3) := by decide +kernel
theorem dX3_mean_7 : decode cX3_mean 7 = .ok (.iconst (-1), 1) := by decide +kernel
theorem dX3_mean_8 : decode cX3_mean 8 = .ok (.ireturn, 1) := by decide +kernel
theorem dX3_mean_9 : decode cX3_mean 9 = .ok (.aload_n 0, 1) := by decide +kernel
theorem dX3_mean_10 : decode cX3_mean 10 = .ok (.getfield 10, 3) := by decide +kernel
theorem dX3_mean_13 : decode cX3_mean 13 = .ok (.iload_n 1, 1) := by decide +kernel
theorem dX3_mean_14 : decode cX3_mean 14 = .ok (.invokevirtual 116, 3) := by decide +kernel
theorem dX3_mean_17 : decode cX3_mean 17 = .ok (.istore_n 2, 1) := by decide +kernel
theorem dX3_mean_18 : decode cX3_mean 18 = .ok (.iload_n 2, 1) := by decide +kernel
theorem dX3_mean_19 : decode cX3_mean 19 = .ok (.ifCond .gt 6, 3) := by decide +kernel
theorem dX3_mean_22 : decode cX3_mean 22 = .ok (.bipush (-6), 2) := by decide +kernel
theorem dX3_mean_24 : decode cX3_mean 24 = .ok (.ireturn, 1) := by decide +kernel
theorem dX3_mean_25 : decode cX3_mean 25 = .ok (.aload_n 0, 1) := by decide +kernel
theorem dX3_mean_26 : decode cX3_mean 26 = .ok (.getfield 10, 3) := by decide +kernel
theorem dX3_mean_29 : decode cX3_mean 29 = .ok (.iload_n 1, 1) := by decide +kernel
theorem dX3_mean_30 : decode cX3_mean 30 = .ok (.bipush 11, 2) := by decide +kernel
theorem dX3_mean_32 : decode cX3_mean 32 = .ok (.invokevirtual 100, 3) := by decide +kernel
theorem dX3_mean_35 : decode cX3_mean 35 = .ok (.iload_n 2, 1) := by decide +kernel
theorem dX3_mean_36 : decode cX3_mean 36 = .ok (.idiv, 1) := by decide +kernel
theorem dX3_mean_37 : decode cX3_mean 37 = .ok (.ireturn, 1) := by decide +kernel
set_option maxRecDepth 20000 in
theorem ggX3_busiest_X0_passagesThrough : GoodIn wsX3_busiest wsX0_passagesThrough := goodIn_r _ [6, 7, 8, 9, 5, 10, 17] (by decide +kernel) (by decide +kernel)
set_option maxRecDepth 20000 in
theorem gX3_busiest_X0_passagesThrough : GoodIn wsX3_busiest (wsV RX3 116 RX0 yX0_passagesThrough wsX0_passagesThrough) := goodIn_app (goodIn_of _ (by decide +kernel)) ggX3_busiest_X0_passagesThrough
theorem dX3_busiest_0 : decode cX3_busiest 0 = .ok (.bipush (-6), 2) := by decide +kernel
theorem dX3_busiest_2 : decode cX3_busiest 2 = .ok (.istore_n 1, 1) := by decide +kernel
theorem dX3_busiest_3 : decode cX3_busiest 3 = .ok (.iconst 0, 1) := by decide +kernel
theorem dX3_busiest_4 : decode cX3_busiest 4 = .ok (.istore_n 2, 1) := by decide +kernel
theorem dX3_busiest_5 : decode cX3_busiest 5 = .ok (.iconst 0, 1) := by decide +kernel
theorem dX3_busiest_6 : decode cX3_busiest 6 = .ok (.istore_n 3, 1) := by decide +kernel
theorem dX3_busiest_7 : decode cX3_busiest 7 = .ok (.iload_n 3, 1) := by decide +kernel
theorem dX3_busiest_8 : decode cX3_busiest 8 = .ok (.bipush 6, 2) := by decide +kernel
theorem dX3_busiest_10 : decode cX3_busiest 10 = .ok (.if_icmp .ge 30, 3) := by decide +kernel
theorem dX3_busiest_13 : decode cX3_busiest 13 = .ok (.aload_n 0, 1) := by decide +kernel
theorem dX3_busiest_14 : decode cX3_busiest 14 = .ok (.getfield 10, 3) := by decide +kernel
theorem dX3_busiest_17 : decode cX3_busiest 17 = .ok (.iload_n 3, 1) := by decide +kernel
theorem dX3_busiest_18 : decode cX3_busiest 18 = .ok (.invokevirtual 116, 3) := by decide +kernel
theorem dX3_busiest_21 : decode cX3_busiest 21 = .ok (.istore 4, 2) := by decide +kernel
theorem dX3_busiest_23 : decode cX3_busiest 23 = .ok (.iload 4, 2) := by decide +kernel
theorem dX3_busiest_25 : decode cX3_busiest 25 = .ok (.iload_n 2, 1) := by decide +kernel
theorem dX3_busiest_26 : decode cX3_busiest 26 = .ok (.if_icmp .le 8, 3) := by decide +kernel
theorem dX3_busiest_29 : decode cX3_busiest 29 = .ok (.iload 4, 2) := by decide +kernel
theorem dX3_busiest_31 : decode cX3_busiest 31 = .ok (.istore_n 2, 1) := by decide +kernel
theorem dX3_busiest_32 : decode cX3_busiest 32 = .ok (.iload_n 3, 1) := by decide +kernel
theorem dX3_busiest_33 : decode cX3_busiest 33 = .ok (.istore_n 1, 1) := by decide +kernel
theorem dX3_busiest_34 : decode cX3_busiest 34 = .ok (.iinc 3 1, 3) := by decide +kernel
theorem dX3_busiest_37 : decode cX3_busiest 37 = .ok (.goto (-30), 3) := by decide +kernel
theorem dX3_busiest_40 : decode cX3_busiest 40 = .ok (.iload_n 1, 1) := by decide +kernel
theorem dX3_busiest_41 : decode cX3_busiest 41 = .ok (.ireturn, 1) := by decide +kernel
set_option maxRecDepth 20000 in
theorem ggX3_eventsTo_X3_isNoGate : GoodIn wsX3_eventsTo wsX3_isNoGate := goodIn_r _ [9] (by decide +kernel) (by decide +kernel)
set_option maxRecDepth 20000 in
theorem gX3_eventsTo_X3_isNoGate : GoodIn wsX3_eventsTo (va_wsS RX3 56 yX3_isNoGate wsX3_isNoGate) := goodIn_app (goodIn_of _ (by decide +kernel)) ggX3_eventsTo_X3_isNoGate
set_option maxRecDepth 20000 in
theorem ggX3_eventsTo_X0_isUnderWay : GoodIn wsX3_eventsTo wsX0_isUnderWay := goodIn_r _ [14, 15, 16, 17, 13, 18, 33] (by decide +kernel) (by decide +kernel)
set_option maxRecDepth 20000 in
theorem gX3_eventsTo_X0_isUnderWay : GoodIn wsX3_eventsTo (wsV RX3 94 RX0 yX0_isUnderWay wsX0_isUnderWay) := goodIn_app (goodIn_of _ (by decide +kernel)) ggX3_eventsTo_X0_isUnderWay
set_option maxRecDepth 20000 in
theorem ggX3_eventsTo_X0_isSure : GoodIn wsX3_eventsTo wsX0_isSure := goodIn_r _ [22, 15, 16, 17, 13, 18, 33] (by decide +kernel) (by decide +kernel)
set_option maxRecDepth 20000 in
theorem gX3_eventsTo_X0_isSure : GoodIn wsX3_eventsTo (wsV RX3 123 RX0 yX0_isSure wsX0_isSure) := goodIn_app (goodIn_of _ (by decide +kernel)) ggX3_eventsTo_X0_isSure
set_option maxRecDepth 20000 in
theorem ggX3_eventsTo_X0_placeOf : GoodIn wsX3_eventsTo wsX0_placeOf := goodIn_r _ [26, 15, 16, 17, 13, 18, 33] (by decide +kernel) (by decide +kernel)
set_option maxRecDepth 20000 in
theorem gX3_eventsTo_X0_placeOf : GoodIn wsX3_eventsTo (wsV RX3 126 RX0 yX0_placeOf wsX0_placeOf) := goodIn_app (goodIn_of _ (by decide +kernel)) ggX3_eventsTo_X0_placeOf
theorem dX3_eventsTo_0 : decode cX3_eventsTo 0 = .ok (.iload_n 1, 1) := by decide +kernel
theorem dX3_eventsTo_1 : decode cX3_eventsTo 1 = .ok (.invokestatic 56, 3) := by decide +kernel
theorem dX3_eventsTo_4 : decode cX3_eventsTo 4 = .ok (.ifCond .eq 5, 3) := by decide +kernel
theorem dX3_eventsTo_7 : decode cX3_eventsTo 7 = .ok (.iconst (-1), 1) := by decide +kernel
theorem dX3_eventsTo_8 : decode cX3_eventsTo 8 = .ok (.ireturn, 1) := by decide +kernel
theorem dX3_eventsTo_9 : decode cX3_eventsTo 9 = .ok (.iload_n 2, 1) := by decide +kernel
theorem dX3_eventsTo_10 : decode cX3_eventsTo 10 = .ok (.ifCond .lt 8, 3) := by decide +kernel
theorem dX3_eventsTo_13 : decode cX3_eventsTo 13 = .ok (.iload_n 2, 1) := by decide +kernel
theorem dX3_eventsTo_14 : decode cX3_eventsTo 14 = .ok (.iconst 3, 1) := by decide +kernel
theorem dX3_eventsTo_15 : decode cX3_eventsTo 15 = .ok (.if_icmp .lt 6, 3) := by decide +kernel
theorem dX3_eventsTo_18 : decode cX3_eventsTo 18 = .ok (.bipush (-2), 2) := by decide +kernel
theorem dX3_eventsTo_20 : decode cX3_eventsTo 20 = .ok (.ireturn, 1) := by decide +kernel
theorem dX3_eventsTo_21 : decode cX3_eventsTo 21 = .ok (.aload_n 0, 1) := by decide +kernel
theorem dX3_eventsTo_22 : decode cX3_eventsTo 22 = .ok (.getfield 10, 3) := by decide +kernel
theorem dX3_eventsTo_25 : decode cX3_eventsTo 25 = .ok (.iload_n 1, 1) := by decide +kernel
theorem dX3_eventsTo_26 : decode cX3_eventsTo 26 = .ok (.invokevirtual 94, 3) := by decide +kernel
theorem dX3_eventsTo_29 : decode cX3_eventsTo 29 = .ok (.ifCond .eq 14, 3) := by decide +kernel
theorem dX3_eventsTo_32 : decode cX3_eventsTo 32 = .ok (.aload_n 0, 1) := by decide +kernel
theorem dX3_eventsTo_33 : decode cX3_eventsTo 33 = .ok (.getfield 10, 3) := by decide +kernel
theorem dX3_eventsTo_36 : decode cX3_eventsTo 36 = .ok (.iload_n 1, 1) := by decide +kernel
theorem dX3_eventsTo_37 : decode cX3_eventsTo 37 = .ok (.invokevirtual 123, 3) := by decide +kernel
theorem dX3_eventsTo_40 : decode cX3_eventsTo 40 = .ok (.ifCond .ne 6, 3) := by decide +kernel
theorem dX3_eventsTo_43 : decode cX3_eventsTo 43 = .ok (.bipush (-5), 2) := by decide +kernel
theorem dX3_eventsTo_45 : decode cX3_eventsTo 45 = .ok (.ireturn, 1) := by decide +kernel
theorem dX3_eventsTo_46 : decode cX3_eventsTo 46 = .ok (.aload_n 0, 1) := by decide +kernel
theorem dX3_eventsTo_47 : decode cX3_eventsTo 47 = .ok (.getfield 10, 3) := by decide +kernel
theorem dX3_eventsTo_50 : decode cX3_eventsTo 50 = .ok (.iload_n 1, 1) := by decide +kernel
theorem dX3_eventsTo_51 : decode cX3_eventsTo 51 = .ok (.invokevirtual 126, 3) := by decide +kernel
theorem dX3_eventsTo_54 : decode cX3_eventsTo 54 = .ok (.istore_n 3, 1) := by decide +kernel
theorem dX3_eventsTo_55 : decode cX3_eventsTo 55 = .ok (.iload_n 3, 1) := by decide +kernel
theorem dX3_eventsTo_56 : decode cX3_eventsTo 56 = .ok (.invokestatic 129, 3) := by decide +kernel
theorem dX3_eventsTo_59 : decode cX3_eventsTo 59 = .ok (.istore 4, 2) := by decide +kernel
theorem dX3_eventsTo_61 : decode cX3_eventsTo 61 = .ok (.iload_n 2, 1) := by decide +kernel
theorem dX3_eventsTo_62 : decode cX3_eventsTo 62 = .ok (.iconst 2, 1) := by decide +kernel
theorem dX3_eventsTo_63 : decode cX3_eventsTo 63 = .ok (.if_icmp .ne 6, 3) := by decide +kernel
theorem dX3_eventsTo_66 : decode cX3_eventsTo 66 = .ok (.iload 4, 2) := by decide +kernel
theorem dX3_eventsTo_68 : decode cX3_eventsTo 68 = .ok (.ireturn, 1) := by decide +kernel
theorem dX3_eventsTo_69 : decode cX3_eventsTo 69 = .ok (.iload_n 2, 1) := by decide +kernel
theorem dX3_eventsTo_70 : decode cX3_eventsTo 70 = .ok (.ifCond .ne 7, 3) := by decide +kernel
theorem dX3_eventsTo_73 : decode cX3_eventsTo 73 = .ok (.iconst 1, 1) := by decide +kernel
theorem dX3_eventsTo_74 : decode cX3_eventsTo 74 = .ok (.goto 4, 3) := by decide +kernel
theorem dX3_eventsTo_77 : decode cX3_eventsTo 77 = .ok (.iconst 0, 1) := by decide +kernel
theorem dX3_eventsTo_78 : decode cX3_eventsTo 78 = .ok (.iload_n 3, 1) := by decide +kernel
theorem dX3_eventsTo_79 : decode cX3_eventsTo 79 = .ok (.ifCond .le 7, 3) := by decide +kernel
theorem dX3_eventsTo_82 : decode cX3_eventsTo 82 = .ok (.iconst 1, 1) := by decide +kernel
theorem dX3_eventsTo_83 : decode cX3_eventsTo 83 = .ok (.goto 4, 3) := by decide +kernel
theorem dX3_eventsTo_86 : decode cX3_eventsTo 86 = .ok (.iconst 0, 1) := by decide +kernel
theorem dX3_eventsTo_87 : decode cX3_eventsTo 87 = .ok (.if_icmp .ne 7, 3) := by decide +kernel
theorem dX3_eventsTo_90 : decode cX3_eventsTo 90 = .ok (.iconst 1, 1) := by decide +kernel
theorem dX3_eventsTo_91 : decode cX3_eventsTo 91 = .ok (.goto 4, 3) := by decide +kernel
theorem dX3_eventsTo_94 : decode cX3_eventsTo 94 = .ok (.iconst 0, 1) := by decide +kernel
theorem dX3_eventsTo_95 : decode cX3_eventsTo 95 = .ok (.istore 5, 2) := by decide +kernel
theorem dX3_eventsTo_97 : decode cX3_eventsTo 97 = .ok (.iload 5, 2) := by decide +kernel
theorem dX3_eventsTo_99 : decode cX3_eventsTo 99 = .ok (.ifCond .eq 10, 3) := by decide +kernel
theorem dX3_eventsTo_102 : decode cX3_eventsTo 102 = .ok (.iconst 4, 1) := by decide +kernel
theorem dX3_eventsTo_103 : decode cX3_eventsTo 103 = .ok (.iload 4, 2) := by decide +kernel
theorem dX3_eventsTo_105 : decode cX3_eventsTo 105 = .ok (.isub, 1) := by decide +kernel
theorem dX3_eventsTo_106 : decode cX3_eventsTo 106 = .ok (.goto 5, 3) := by decide +kernel
theorem dX3_eventsTo_109 : decode cX3_eventsTo 109 = .ok (.bipush (-6), 2) := by decide +kernel
theorem dX3_eventsTo_111 : decode cX3_eventsTo 111 = .ok (.ireturn, 1) := by decide +kernel
set_option maxRecDepth 20000 in
theorem ggX3_untilBlocked_X0_isUnderWay : GoodIn wsX3_untilBlocked wsX0_isUnderWay := goodIn_r _ [7, 8, 9, 10, 6, 11, 28] (by decide +kernel) (by decide +kernel)
set_option maxRecDepth 20000 in
theorem gX3_untilBlocked_X0_isUnderWay : GoodIn wsX3_untilBlocked (wsV RX3 94 RX0 yX0_isUnderWay wsX0_isUnderWay) := goodIn_app (goodIn_of _ (by decide +kernel)) ggX3_untilBlocked_X0_isUnderWay
set_option maxRecDepth 20000 in
theorem ggX3_untilBlocked_X0_isBlocked : GoodIn wsX3_untilBlocked wsX0_isBlocked := goodIn_r _ [15, 8, 16, 4, 5, 6, 7, 9, 10, 11, 17, 18, 19, 20, 28] (by decide +kernel) (by decide +kernel)
set_option maxRecDepth 20000 in
theorem gX3_untilBlocked_X0_isBlocked : GoodIn wsX3_untilBlocked (wsV RX3 134 RX0 yX0_isBlocked wsX0_isBlocked) := goodIn_app (goodIn_of _ (by decide +kernel)) ggX3_untilBlocked_X0_isBlocked
set_option maxRecDepth 20000 in
theorem ggX3_untilBlocked_X0_ticksUnderWay : GoodIn wsX3_untilBlocked wsX0_ticksUnderWay := goodIn_r _ [20, 8, 9, 10, 6, 11, 28] (by decide +kernel) (by decide +kernel)
set_option maxRecDepth 20000 in
theorem gX3_untilBlocked_X0_ticksUnderWay : GoodIn wsX3_untilBlocked (wsV RX3 137 RX0 yX0_ticksUnderWay wsX0_ticksUnderWay) := goodIn_app (goodIn_of _ (by decide +kernel)) ggX3_untilBlocked_X0_ticksUnderWay
theorem dX3_untilBlocked_0 : decode cX3_untilBlocked 0 = .ok (.bipush (-6), 2) := by decide +kernel
theorem dX3_untilBlocked_2 : decode cX3_untilBlocked 2 = .ok (.istore_n 1, 1) := by decide +kernel
theorem dX3_untilBlocked_3 : decode cX3_untilBlocked 3 = .ok (.iconst 0, 1) := by decide +kernel
theorem dX3_untilBlocked_4 : decode cX3_untilBlocked 4 = .ok (.istore_n 2, 1) := by decide +kernel
theorem dX3_untilBlocked_5 : decode cX3_untilBlocked 5 = .ok (.iload_n 2, 1) := by decide +kernel
theorem dX3_untilBlocked_6 : decode cX3_untilBlocked 6 = .ok (.bipush 6, 2) := by decide +kernel
theorem dX3_untilBlocked_8 : decode cX3_untilBlocked 8 = .ok (.if_icmp .ge 63, 3) := by decide +kernel
theorem dX3_untilBlocked_11 : decode cX3_untilBlocked 11 = .ok (.aload_n 0, 1) := by decide +kernel
theorem dX3_untilBlocked_12 : decode cX3_untilBlocked 12 = .ok (.getfield 10, 3) := by decide +kernel
theorem dX3_untilBlocked_15 : decode cX3_untilBlocked 15 = .ok (.iload_n 2, 1) := by decide +kernel
theorem dX3_untilBlocked_16 : decode cX3_untilBlocked 16 = .ok (.invokevirtual 94, 3) := by decide +kernel
theorem dX3_untilBlocked_19 : decode cX3_untilBlocked 19 = .ok (.ifCond .eq 46, 3) := by decide +kernel
theorem dX3_untilBlocked_22 : decode cX3_untilBlocked 22 = .ok (.aload_n 0, 1) := by decide +kernel
theorem dX3_untilBlocked_23 : decode cX3_untilBlocked 23 = .ok (.getfield 10, 3) := by decide +kernel
theorem dX3_untilBlocked_26 : decode cX3_untilBlocked 26 = .ok (.iload_n 2, 1) := by decide +kernel
theorem dX3_untilBlocked_27 : decode cX3_untilBlocked 27 = .ok (.invokevirtual 134, 3) := by decide +kernel
theorem dX3_untilBlocked_30 : decode cX3_untilBlocked 30 = .ok (.ifCond .ne 35, 3) := by decide +kernel
theorem dX3_untilBlocked_33 : decode cX3_untilBlocked 33 = .ok (.aload_n 0, 1) := by decide +kernel
theorem dX3_untilBlocked_34 : decode cX3_untilBlocked 34 = .ok (.getfield 10, 3) := by decide +kernel
theorem dX3_untilBlocked_37 : decode cX3_untilBlocked 37 = .ok (.getfield 49, 3) := by decide +kernel
theorem dX3_untilBlocked_40 : decode cX3_untilBlocked 40 = .ok (.iconst 0, 1) := by decide +kernel
theorem dX3_untilBlocked_41 : decode cX3_untilBlocked 41 = .ok (.iaload, 1) := by decide +kernel
theorem dX3_untilBlocked_42 : decode cX3_untilBlocked 42 = .ok (.aload_n 0, 1) := by decide +kernel
theorem dX3_untilBlocked_43 : decode cX3_untilBlocked 43 = .ok (.getfield 10, 3) := by decide +kernel
theorem dX3_untilBlocked_46 : decode cX3_untilBlocked 46 = .ok (.iload_n 2, 1) := by decide +kernel
theorem dX3_untilBlocked_47 : decode cX3_untilBlocked 47 = .ok (.invokevirtual 137, 3) := by decide +kernel
theorem dX3_untilBlocked_50 : decode cX3_untilBlocked 50 = .ok (.isub, 1) := by decide +kernel
theorem dX3_untilBlocked_51 : decode cX3_untilBlocked 51 = .ok (.istore_n 3, 1) := by decide +kernel
theorem dX3_untilBlocked_52 : decode cX3_untilBlocked 52 = .ok (.iload_n 1, 1) := by decide +kernel
theorem dX3_untilBlocked_53 : decode cX3_untilBlocked 53 = .ok (.bipush (-6), 2) := by decide +kernel
theorem dX3_untilBlocked_55 : decode cX3_untilBlocked 55 = .ok (.if_icmp .eq 8, 3) := by decide +kernel
theorem dX3_untilBlocked_58 : decode cX3_untilBlocked 58 = .ok (.iload_n 3, 1) := by decide +kernel
theorem dX3_untilBlocked_59 : decode cX3_untilBlocked 59 = .ok (.iload_n 1, 1) := by decide +kernel
theorem dX3_untilBlocked_60 : decode cX3_untilBlocked 60 = .ok (.if_icmp .ge 5, 3) := by decide +kernel
theorem dX3_untilBlocked_63 : decode cX3_untilBlocked 63 = .ok (.iload_n 3, 1) := by decide +kernel
theorem dX3_untilBlocked_64 : decode cX3_untilBlocked 64 = .ok (.istore_n 1, 1) := by decide +kernel
theorem dX3_untilBlocked_65 : decode cX3_untilBlocked 65 = .ok (.iinc 2 1, 3) := by decide +kernel
theorem dX3_untilBlocked_68 : decode cX3_untilBlocked 68 = .ok (.goto (-63), 3) := by decide +kernel
theorem dX3_untilBlocked_71 : decode cX3_untilBlocked 71 = .ok (.iload_n 1, 1) := by decide +kernel
theorem dX3_untilBlocked_72 : decode cX3_untilBlocked 72 = .ok (.ireturn, 1) := by decide +kernel
set_option maxRecDepth 20000 in
theorem ggX3_put_X2_numberOf : GoodIn wsX3_put wsX2_numberOf := goodIn_r _ [6, 7] (by decide +kernel) (by decide +kernel)
set_option maxRecDepth 20000 in
theorem gX3_put_X2_numberOf : GoodIn wsX3_put (va_wsS RX3 140 yX2_numberOf wsX2_numberOf) := goodIn_app (goodIn_of _ (by decide +kernel)) ggX3_put_X2_numberOf
set_option maxRecDepth 20000 in
theorem ggX3_put_X2_hasRoomFor : GoodIn wsX3_put wsX2_hasRoomFor := goodIn_r _ [11, 12, 24, 25] (by decide +kernel) (by decide +kernel)
set_option maxRecDepth 20000 in
theorem gX3_put_X2_hasRoomFor : GoodIn wsX3_put (wsV RX3 144 RX2 yX2_hasRoomFor wsX2_hasRoomFor) := goodIn_app (goodIn_of _ (by decide +kernel)) ggX3_put_X2_hasRoomFor
set_option maxRecDepth 20000 in
theorem ggX3_put_X2_append : GoodIn wsX3_put wsX2_append := goodIn_r _ [16, 12, 17, 7, 24, 25] (by decide +kernel) (by decide +kernel)
set_option maxRecDepth 20000 in
theorem gX3_put_X2_append : GoodIn wsX3_put (wsV RX3 145 RX2 yX2_append wsX2_append) := goodIn_app (goodIn_of _ (by decide +kernel)) ggX3_put_X2_append
theorem dX3_put_0 : decode cX3_put 0 = .ok (.lload_n 1, 1) := by decide +kernel
theorem dX3_put_1 : decode cX3_put 1 = .ok (.invokestatic 140, 3) := by decide +kernel
theorem dX3_put_4 : decode cX3_put 4 = .ok (.istore_n 3, 1) := by decide +kernel
theorem dX3_put_5 : decode cX3_put 5 = .ok (.iload_n 3, 1) := by decide +kernel
theorem dX3_put_6 : decode cX3_put 6 = .ok (.iconst 1, 1) := by decide +kernel
theorem dX3_put_7 : decode cX3_put 7 = .ok (.if_icmp .ge 6, 3) := by decide +kernel
theorem dX3_put_10 : decode cX3_put 10 = .ok (.bipush (-2), 2) := by decide +kernel
theorem dX3_put_12 : decode cX3_put 12 = .ok (.ireturn, 1) := by decide +kernel
theorem dX3_put_13 : decode cX3_put 13 = .ok (.aload_n 0, 1) := by decide +kernel
theorem dX3_put_14 : decode cX3_put 14 = .ok (.getfield 22, 3) := by decide +kernel
theorem dX3_put_17 : decode cX3_put 17 = .ok (.iload_n 3, 1) := by decide +kernel
theorem dX3_put_18 : decode cX3_put 18 = .ok (.invokevirtual 144, 3) := by decide +kernel
theorem dX3_put_21 : decode cX3_put 21 = .ok (.ifCond .ne 6, 3) := by decide +kernel
theorem dX3_put_24 : decode cX3_put 24 = .ok (.bipush (-4), 2) := by decide +kernel
theorem dX3_put_26 : decode cX3_put 26 = .ok (.ireturn, 1) := by decide +kernel
theorem dX3_put_27 : decode cX3_put 27 = .ok (.aload_n 0, 1) := by decide +kernel
theorem dX3_put_28 : decode cX3_put 28 = .ok (.getfield 22, 3) := by decide +kernel
theorem dX3_put_31 : decode cX3_put 31 = .ok (.lload_n 1, 1) := by decide +kernel
theorem dX3_put_32 : decode cX3_put 32 = .ok (.iload_n 3, 1) := by decide +kernel
theorem dX3_put_33 : decode cX3_put 33 = .ok (.invokevirtual 145, 3) := by decide +kernel
theorem dX3_put_36 : decode cX3_put 36 = .ok (.aload_n 0, 1) := by decide +kernel
theorem dX3_put_37 : decode cX3_put 37 = .ok (.getfield 22, 3) := by decide +kernel
theorem dX3_put_40 : decode cX3_put 40 = .ok (.getfield 106, 3) := by decide +kernel
theorem dX3_put_43 : decode cX3_put 43 = .ok (.ireturn, 1) := by decide +kernel
set_option maxRecDepth 20000 in
theorem ggX3_wipe_X2_empty : GoodIn wsX3_wipe wsX2_empty := goodIn_r _ [7, 8, 15, 16] (by decide +kernel) (by decide +kernel)
set_option maxRecDepth 20000 in
theorem gX3_wipe_X2_empty : GoodIn wsX3_wipe (wsV RX3 88 RX2 yX2_empty wsX2_empty) := goodIn_app (goodIn_of _ (by decide +kernel)) ggX3_wipe_X2_empty
theorem dX3_wipe_0 : decode cX3_wipe 0 = .ok (.aload_n 0, 1) := by decide +kernel
theorem dX3_wipe_1 : decode cX3_wipe 1 = .ok (.getfield 22, 3) := by decide +kernel
theorem dX3_wipe_4 : decode cX3_wipe 4 = .ok (.getfield 106, 3) := by decide +kernel
theorem dX3_wipe_7 : decode cX3_wipe 7 = .ok (.istore_n 1, 1) := by decide +kernel
theorem dX3_wipe_8 : decode cX3_wipe 8 = .ok (.aload_n 0, 1) := by decide +kernel
theorem dX3_wipe_9 : decode cX3_wipe 9 = .ok (.getfield 22, 3) := by decide +kernel
theorem dX3_wipe_12 : decode cX3_wipe 12 = .ok (.invokevirtual 88, 3) := by decide +kernel
theorem dX3_wipe_15 : decode cX3_wipe 15 = .ok (.iload_n 1, 1) := by decide +kernel
theorem dX3_wipe_16 : decode cX3_wipe 16 = .ok (.ireturn, 1) := by decide +kernel
set_option maxRecDepth 20000 in
theorem ggX3_save_X3_isNoSlot : GoodIn wsX3_save wsX3_isNoSlot := goodIn_r _ [8] (by decide +kernel) (by decide +kernel)
set_option maxRecDepth 20000 in
theorem gX3_save_X3_isNoSlot : GoodIn wsX3_save (va_wsS RX3 152 yX3_isNoSlot wsX3_isNoSlot) := goodIn_app (goodIn_of _ (by decide +kernel)) ggX3_save_X3_isNoSlot
set_option maxRecDepth 20000 in
theorem ggX3_save_X3_copyRow : GoodIn wsX3_save wsX3_copyRow := goodIn_r _ [11, 12, 13, 14, 15] (by decide +kernel) (by decide +kernel)
set_option maxRecDepth 20000 in
theorem gX3_save_X3_copyRow : GoodIn wsX3_save (va_wsS RX3 119 yX3_copyRow wsX3_copyRow) := goodIn_app (goodIn_of _ (by decide +kernel)) ggX3_save_X3_copyRow
theorem dX3_save_0 : decode cX3_save 0 = .ok (.iload_n 1, 1) := by decide +kernel
theorem dX3_save_1 : decode cX3_save 1 = .ok (.invokestatic 152, 3) := by decide +kernel
theorem dX3_save_4 : decode cX3_save 4 = .ok (.ifCond .eq 6, 3) := by decide +kernel
theorem dX3_save_7 : decode cX3_save 7 = .ok (.bipush (-2), 2) := by decide +kernel
theorem dX3_save_9 : decode cX3_save 9 = .ok (.ireturn, 1) := by decide +kernel
theorem dX3_save_10 : decode cX3_save 10 = .ok (.aload_n 0, 1) := by decide +kernel
theorem dX3_save_11 : decode cX3_save 11 = .ok (.getfield 10, 3) := by decide +kernel
theorem dX3_save_14 : decode cX3_save 14 = .ok (.getfield 49, 3) := by decide +kernel
theorem dX3_save_17 : decode cX3_save 17 = .ok (.aload_n 0, 1) := by decide +kernel
theorem dX3_save_18 : decode cX3_save 18 = .ok (.getfield 35, 3) := by decide +kernel
theorem dX3_save_21 : decode cX3_save 21 = .ok (.iload_n 1, 1) := by decide +kernel
theorem dX3_save_22 : decode cX3_save 22 = .ok (.aaload, 1) := by decide +kernel
theorem dX3_save_23 : decode cX3_save 23 = .ok (.invokestatic 119, 3) := by decide +kernel
theorem dX3_save_26 : decode cX3_save 26 = .ok (.aload_n 0, 1) := by decide +kernel
theorem dX3_save_27 : decode cX3_save 27 = .ok (.getfield 38, 3) := by decide +kernel
theorem dX3_save_30 : decode cX3_save 30 = .ok (.iload_n 1, 1) := by decide +kernel
theorem dX3_save_31 : decode cX3_save 31 = .ok (.iconst 1, 1) := by decide +kernel
theorem dX3_save_32 : decode cX3_save 32 = .ok (.bastore, 1) := by decide +kernel
theorem dX3_save_33 : decode cX3_save 33 = .ok (.aload_n 0, 1) := by decide +kernel
theorem dX3_save_34 : decode cX3_save 34 = .ok (.getfield 10, 3) := by decide +kernel
theorem dX3_save_37 : decode cX3_save 37 = .ok (.getfield 49, 3) := by decide +kernel
theorem dX3_save_40 : decode cX3_save 40 = .ok (.iconst 4, 1) := by decide +kernel
theorem dX3_save_41 : decode cX3_save 41 = .ok (.iaload, 1) := by decide +kernel
theorem dX3_save_42 : decode cX3_save 42 = .ok (.ireturn, 1) := by decide +kernel
set_option maxRecDepth 20000 in
theorem ggX3_restore_X3_isNoSlot : GoodIn wsX3_restore wsX3_isNoSlot := goodIn_r _ [9] (by decide +kernel) (by decide +kernel)
set_option maxRecDepth 20000 in
theorem gX3_restore_X3_isNoSlot : GoodIn wsX3_restore (va_wsS RX3 152 yX3_isNoSlot wsX3_isNoSlot) := goodIn_app (goodIn_of _ (by decide +kernel)) ggX3_restore_X3_isNoSlot
set_option maxRecDepth 20000 in
theorem ggX3_restore_X1_keep : GoodIn wsX3_restore wsX1_keep := goodIn_r _ [14, 15, 16, 17, 18, 19, 20, 21, 22, 8, 23, 24, 25, 26, 27, 36, 37, 38] (by decide +kernel) (by decide +kernel)
set_option maxRecDepth 20000 in
theorem gX3_restore_X1_keep : GoodIn wsX3_restore (wsV RX3 52 RX1 yX1_keep wsX1_keep) := goodIn_app (goodIn_of _ (by decide +kernel)) ggX3_restore_X1_keep
set_option maxRecDepth 20000 in
theorem ggX3_restore_X3_copyRow : GoodIn wsX3_restore wsX3_copyRow := goodIn_r _ [23, 24, 25, 26, 27] (by decide +kernel) (by decide +kernel)
set_option maxRecDepth 20000 in
theorem gX3_restore_X3_copyRow : GoodIn wsX3_restore (va_wsS RX3 119 yX3_copyRow wsX3_copyRow) := goodIn_app (goodIn_of _ (by decide +kernel)) ggX3_restore_X3_copyRow
theorem dX3_restore_0 : decode cX3_restore 0 = .ok (.iload_n 1, 1) := by decide +kernel
theorem dX3_restore_1 : decode cX3_restore 1 = .ok (.invokestatic 152, 3) := by decide +kernel
theorem dX3_restore_4 : decode cX3_restore 4 = .ok (.ifCond .eq 6, 3) := by decide +kernel
theorem dX3_restore_7 : decode cX3_restore 7 = .ok (.bipush (-2), 2) := by decide +kernel
theorem dX3_restore_9 : decode cX3_restore 9 = .ok (.ireturn, 1) := by decide +kernel
theorem dX3_restore_10 : decode cX3_restore 10 = .ok (.aload_n 0, 1) := by decide +kernel
theorem dX3_restore_11 : decode cX3_restore 11 = .ok (.getfield 38, 3) := by decide +kernel
theorem dX3_restore_14 : decode cX3_restore 14 = .ok (.iload_n 1, 1) := by decide +kernel
theorem dX3_restore_15 : decode cX3_restore 15 = .ok (.baload, 1) := by decide +kernel
theorem dX3_restore_16 : decode cX3_restore 16 = .ok (.ifCond .ne 6, 3) := by decide +kernel
theorem dX3_restore_19 : decode cX3_restore 19 = .ok (.bipush (-5), 2) := by decide +kernel
theorem dX3_restore_21 : decode cX3_restore 21 = .ok (.ireturn, 1) := by decide +kernel
theorem dX3_restore_22 : decode cX3_restore 22 = .ok (.aload_n 0, 1) := by decide +kernel
theorem dX3_restore_23 : decode cX3_restore 23 = .ok (.getfield 29, 3) := by decide +kernel
theorem dX3_restore_26 : decode cX3_restore 26 = .ok (.aload_n 0, 1) := by decide +kernel
theorem dX3_restore_27 : decode cX3_restore 27 = .ok (.getfield 10, 3) := by decide +kernel
theorem dX3_restore_30 : decode cX3_restore 30 = .ok (.getfield 49, 3) := by decide +kernel
theorem dX3_restore_33 : decode cX3_restore 33 = .ok (.invokevirtual 52, 3) := by decide +kernel
theorem dX3_restore_36 : decode cX3_restore 36 = .ok (.aload_n 0, 1) := by decide +kernel
theorem dX3_restore_37 : decode cX3_restore 37 = .ok (.getfield 35, 3) := by decide +kernel
theorem dX3_restore_40 : decode cX3_restore 40 = .ok (.iload_n 1, 1) := by decide +kernel
theorem dX3_restore_41 : decode cX3_restore 41 = .ok (.aaload, 1) := by decide +kernel
theorem dX3_restore_42 : decode cX3_restore 42 = .ok (.aload_n 0, 1) := by decide +kernel
theorem dX3_restore_43 : decode cX3_restore 43 = .ok (.getfield 10, 3) := by decide +kernel
theorem dX3_restore_46 : decode cX3_restore 46 = .ok (.getfield 49, 3) := by decide +kernel
theorem dX3_restore_49 : decode cX3_restore 49 = .ok (.invokestatic 119, 3) := by decide +kernel
theorem dX3_restore_52 : decode cX3_restore 52 = .ok (.aload_n 0, 1) := by decide +kernel
theorem dX3_restore_53 : decode cX3_restore 53 = .ok (.getfield 10, 3) := by decide +kernel
theorem dX3_restore_56 : decode cX3_restore 56 = .ok (.getfield 49, 3) := by decide +kernel
theorem dX3_restore_59 : decode cX3_restore 59 = .ok (.iconst 4, 1) := by decide +kernel
theorem dX3_restore_60 : decode cX3_restore 60 = .ok (.iaload, 1) := by decide +kernel
theorem dX3_restore_61 : decode cX3_restore 61 = .ok (.ireturn, 1) := by decide +kernel
theorem dX3_isNoGate_0 : decode cX3_isNoGate 0 = .ok (.iload_n 0, 1) := by decide +kernel
theorem dX3_isNoGate_1 : decode cX3_isNoGate 1 = .ok (.ifCond .lt 9, 3) := by decide +kernel
theorem dX3_isNoGate_4 : decode cX3_isNoGate 4 = .ok (.iload_n 0, 1) := by decide +kernel
theorem dX3_isNoGate_5 : decode cX3_isNoGate 5 = .ok (.bipush 6, 2) := by decide +kernel
theorem dX3_isNoGate_7 : decode cX3_isNoGate 7 = .ok (.if_icmp .lt 7, 3) := by decide +kernel
theorem dX3_isNoGate_10 : decode cX3_isNoGate 10 = .ok (.iconst 1, 1) := by decide +kernel
theorem dX3_isNoGate_11 : decode cX3_isNoGate 11 = .ok (.goto 4, 3) := by decide +kernel
theorem dX3_isNoGate_14 : decode cX3_isNoGate 14 = .ok (.iconst 0, 1) := by decide +kernel
theorem dX3_isNoGate_15 : decode cX3_isNoGate 15 = .ok (.ireturn, 1) := by decide +kernel
theorem dX3_isNoSlot_0 : decode cX3_isNoSlot 0 = .ok (.iload_n 0, 1) := by decide +kernel
theorem dX3_isNoSlot_1 : decode cX3_isNoSlot 1 = .ok (.ifCond .lt 8, 3) := by decide +kernel
theorem dX3_isNoSlot_4 : decode cX3_isNoSlot 4 = .ok (.iload_n 0, 1) := by decide +kernel
theorem dX3_isNoSlot_5 : decode cX3_isNoSlot 5 = .ok (.iconst 2, 1) := by decide +kernel
theorem dX3_isNoSlot_6 : decode cX3_isNoSlot 6 = .ok (.if_icmp .lt 7, 3) := by decide +kernel
theorem dX3_isNoSlot_9 : decode cX3_isNoSlot 9 = .ok (.iconst 1, 1) := by decide +kernel
theorem dX3_isNoSlot_10 : decode cX3_isNoSlot 10 = .ok (.goto 4, 3) := by decide +kernel
theorem dX3_isNoSlot_13 : decode cX3_isNoSlot 13 = .ok (.iconst 0, 1) := by decide +kernel
theorem dX3_isNoSlot_14 : decode cX3_isNoSlot 14 = .ok (.ireturn, 1) := by decide +kernel
theorem dX3_copyRow_0 : decode cX3_copyRow 0 = .ok (.aload_n 0, 1) := by decide +kernel
theorem dX3_copyRow_1 : decode cX3_copyRow 1 = .ok (.iconst 0, 1) := by decide +kernel
theorem dX3_copyRow_2 : decode cX3_copyRow 2 = .ok (.aload_n 1, 1) := by decide +kernel
theorem dX3_copyRow_3 : decode cX3_copyRow 3 = .ok (.iconst 0, 1) := by decide +kernel
theorem dX3_copyRow_4 : decode cX3_copyRow 4 = .ok (.bipush 86, 2) := by decide +kernel
theorem dX3_copyRow_6 : decode cX3_copyRow 6 = .ok (.invokestatic 155, 3) := by decide +kernel
theorem dX3_copyRow_9 : decode cX3_copyRow 9 = .ok (.return_, 1) := by decide +kernel
