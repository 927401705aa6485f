theorem dX2_init_0 : decode cX2_init 0 = .ok (.aload_n 0, 1) := by decide +kernel
theorem dX2_init_1 : decode cX2_init 1 = .ok (.invokespecial 3, 3) := by decide +kernel
theorem dX2_init_4 : decode cX2_init 4 = .ok (.aload_n 0, 1) := by decide +kernel
theorem dX2_init_5 : decode cX2_init 5 = .ok (.bipush 60, 2) := by decide +kernel
theorem dX2_init_7 : decode cX2_init 7 = .ok (.newarray .char, 2) := by decide +kernel
theorem dX2_init_9 : decode cX2_init 9 = .ok (.putfield 11, 3) := by decide +kernel
theorem dX2_init_12 : decode cX2_init 12 = .ok (.aload_n 0, 1) := by decide +kernel
theorem dX2_init_13 : decode cX2_init 13 = .ok (.iconst 0, 1) := by decide +kernel
theorem dX2_init_14 : decode cX2_init 14 = .ok (.putfield 15, 3) := by decide +kernel
theorem dX2_init_17 : decode cX2_init 17 = .ok (.return_, 1) := by decide +kernel
theorem dX2_numberOf_0 : decode cX2_numberOf 0 = .ok (.iconst 0, 1) := by decide +kernel
theorem dX2_numberOf_1 : decode cX2_numberOf 1 = .ok (.istore_n 2, 1) := by decide +kernel
theorem dX2_numberOf_2 : decode cX2_numberOf 2 = .ok (.iload_n 2, 1) := by decide +kernel
theorem dX2_numberOf_3 : decode cX2_numberOf 3 = .ok (.bipush 8, 2) := by decide +kernel
theorem dX2_numberOf_5 : decode cX2_numberOf 5 = .ok (.if_icmp .ge 59, 3) := by decide +kernel
theorem dX2_numberOf_8 : decode cX2_numberOf 8 = .ok (.lload_n 0, 1) := by decide +kernel
theorem dX2_numberOf_9 : decode cX2_numberOf 9 = .ok (.bipush 8, 2) := by decide +kernel
theorem dX2_numberOf_11 : decode cX2_numberOf 11 = .ok (.iload_n 2, 1) := by decide +kernel
theorem dX2_numberOf_12 : decode cX2_numberOf 12 = .ok (.imul, 1) := by decide +kernel
theorem dX2_numberOf_13 : decode cX2_numberOf 13 = .ok (.lushr, 1) := by decide +kernel
theorem dX2_numberOf_14 : decode cX2_numberOf 14 = .ok (.lstore_n 3, 1) := by decide +kernel
theorem dX2_numberOf_15 : decode cX2_numberOf 15 = .ok (.lload_n 3, 1) := by decide +kernel
theorem dX2_numberOf_16 : decode cX2_numberOf 16 = .ok (.ldc2_w 19, 3) := by decide +kernel
theorem dX2_numberOf_19 : decode cX2_numberOf 19 = .ok (.land, 1) := by decide +kernel
theorem dX2_numberOf_20 : decode cX2_numberOf 20 = .ok (.l2i, 1) := by decide +kernel
theorem dX2_numberOf_21 : decode cX2_numberOf 21 = .ok (.istore 5, 2) := by decide +kernel
theorem dX2_numberOf_23 : decode cX2_numberOf 23 = .ok (.iload 5, 2) := by decide +kernel
theorem dX2_numberOf_25 : decode cX2_numberOf 25 = .ok (.ifCond .ne 16, 3) := by decide +kernel
theorem dX2_numberOf_28 : decode cX2_numberOf 28 = .ok (.lload_n 3, 1) := by decide +kernel
theorem dX2_numberOf_29 : decode cX2_numberOf 29 = .ok (.lconst 0, 1) := by decide +kernel
theorem dX2_numberOf_30 : decode cX2_numberOf 30 = .ok (.lcmp, 1) := by decide +kernel
theorem dX2_numberOf_31 : decode cX2_numberOf 31 = .ok (.ifCond .ne 7, 3) := by decide +kernel
theorem dX2_numberOf_34 : decode cX2_numberOf 34 = .ok (.iload_n 2, 1) := by decide +kernel
theorem dX2_numberOf_35 : decode cX2_numberOf 35 = .ok (.goto 5, 3) := by decide +kernel
theorem dX2_numberOf_38 : decode cX2_numberOf 38 = .ok (.bipush (-2), 2) := by decide +kernel
theorem dX2_numberOf_40 : decode cX2_numberOf 40 = .ok (.ireturn, 1) := by decide +kernel
theorem dX2_numberOf_41 : decode cX2_numberOf 41 = .ok (.iload 5, 2) := by decide +kernel
theorem dX2_numberOf_43 : decode cX2_numberOf 43 = .ok (.bipush 33, 2) := by decide +kernel
theorem dX2_numberOf_45 : decode cX2_numberOf 45 = .ok (.if_icmp .lt 10, 3) := by decide +kernel
theorem dX2_numberOf_48 : decode cX2_numberOf 48 = .ok (.iload 5, 2) := by decide +kernel
theorem dX2_numberOf_50 : decode cX2_numberOf 50 = .ok (.bipush 126, 2) := by decide +kernel
theorem dX2_numberOf_52 : decode cX2_numberOf 52 = .ok (.if_icmp .le 6, 3) := by decide +kernel
theorem dX2_numberOf_55 : decode cX2_numberOf 55 = .ok (.bipush (-2), 2) := by decide +kernel
theorem dX2_numberOf_57 : decode cX2_numberOf 57 = .ok (.ireturn, 1) := by decide +kernel
theorem dX2_numberOf_58 : decode cX2_numberOf 58 = .ok (.iinc 2 1, 3) := by decide +kernel
theorem dX2_numberOf_61 : decode cX2_numberOf 61 = .ok (.goto (-59), 3) := by decide +kernel
theorem dX2_numberOf_64 : decode cX2_numberOf 64 = .ok (.bipush 8, 2) := by decide +kernel
theorem dX2_numberOf_66 : decode cX2_numberOf 66 = .ok (.ireturn, 1) := by decide +kernel
theorem dX2_hasRoomFor_0 : decode cX2_hasRoomFor 0 = .ok (.aload_n 0, 1) := by decide +kernel
theorem dX2_hasRoomFor_1 : decode cX2_hasRoomFor 1 = .ok (.getfield 15, 3) := by decide +kernel
theorem dX2_hasRoomFor_4 : decode cX2_hasRoomFor 4 = .ok (.iload_n 1, 1) := by decide +kernel
theorem dX2_hasRoomFor_5 : decode cX2_hasRoomFor 5 = .ok (.iadd, 1) := by decide +kernel
theorem dX2_hasRoomFor_6 : decode cX2_hasRoomFor 6 = .ok (.bipush 60, 2) := by decide +kernel
theorem dX2_hasRoomFor_8 : decode cX2_hasRoomFor 8 = .ok (.if_icmp .gt 7, 3) := by decide +kernel
theorem dX2_hasRoomFor_11 : decode cX2_hasRoomFor 11 = .ok (.iconst 1, 1) := by decide +kernel
theorem dX2_hasRoomFor_12 : decode cX2_hasRoomFor 12 = .ok (.goto 4, 3) := by decide +kernel
theorem dX2_hasRoomFor_15 : decode cX2_hasRoomFor 15 = .ok (.iconst 0, 1) := by decide +kernel
theorem dX2_hasRoomFor_16 : decode cX2_hasRoomFor 16 = .ok (.ireturn, 1) := by decide +kernel
theorem dX2_append_0 : decode cX2_append 0 = .ok (.iload_n 3, 1) := by decide +kernel
theorem dX2_append_1 : decode cX2_append 1 = .ok (.iconst 1, 1) := by decide +kernel
theorem dX2_append_2 : decode cX2_append 2 = .ok (.isub, 1) := by decide +kernel
theorem dX2_append_3 : decode cX2_append 3 = .ok (.istore 4, 2) := by decide +kernel
theorem dX2_append_5 : decode cX2_append 5 = .ok (.iload 4, 2) := by decide +kernel
theorem dX2_append_7 : decode cX2_append 7 = .ok (.ifCond .lt 50, 3) := by decide +kernel
theorem dX2_append_10 : decode cX2_append 10 = .ok (.aload_n 0, 1) := by decide +kernel
theorem dX2_append_11 : decode cX2_append 11 = .ok (.getfield 15, 3) := by decide +kernel
theorem dX2_append_14 : decode cX2_append 14 = .ok (.bipush 60, 2) := by decide +kernel
theorem dX2_append_16 : decode cX2_append 16 = .ok (.if_icmp .ge 41, 3) := by decide +kernel
theorem dX2_append_19 : decode cX2_append 19 = .ok (.aload_n 0, 1) := by decide +kernel
theorem dX2_append_20 : decode cX2_append 20 = .ok (.getfield 11, 3) := by decide +kernel
theorem dX2_append_23 : decode cX2_append 23 = .ok (.aload_n 0, 1) := by decide +kernel
theorem dX2_append_24 : decode cX2_append 24 = .ok (.getfield 15, 3) := by decide +kernel
theorem dX2_append_27 : decode cX2_append 27 = .ok (.lload_n 1, 1) := by decide +kernel
theorem dX2_append_28 : decode cX2_append 28 = .ok (.bipush 8, 2) := by decide +kernel
theorem dX2_append_30 : decode cX2_append 30 = .ok (.iload 4, 2) := by decide +kernel
theorem dX2_append_32 : decode cX2_append 32 = .ok (.imul, 1) := by decide +kernel
theorem dX2_append_33 : decode cX2_append 33 = .ok (.lushr, 1) := by decide +kernel
theorem dX2_append_34 : decode cX2_append 34 = .ok (.ldc2_w 19, 3) := by decide +kernel
theorem dX2_append_37 : decode cX2_append 37 = .ok (.land, 1) := by decide +kernel
theorem dX2_append_38 : decode cX2_append 38 = .ok (.l2i, 1) := by decide +kernel
theorem dX2_append_39 : decode cX2_append 39 = .ok (.i2c, 1) := by decide +kernel
theorem dX2_append_40 : decode cX2_append 40 = .ok (.castore, 1) := by decide +kernel
theorem dX2_append_41 : decode cX2_append 41 = .ok (.aload_n 0, 1) := by decide +kernel
theorem dX2_append_42 : decode cX2_append 42 = .ok (.dup, 1) := by decide +kernel
theorem dX2_append_43 : decode cX2_append 43 = .ok (.getfield 15, 3) := by decide +kernel
theorem dX2_append_46 : decode cX2_append 46 = .ok (.iconst 1, 1) := by decide +kernel
theorem dX2_append_47 : decode cX2_append 47 = .ok (.iadd, 1) := by decide +kernel
theorem dX2_append_48 : decode cX2_append 48 = .ok (.putfield 15, 3) := by decide +kernel
theorem dX2_append_51 : decode cX2_append 51 = .ok (.iinc 4 (-1), 3) := by decide +kernel
theorem dX2_append_54 : decode cX2_append 54 = .ok (.goto (-49), 3) := by decide +kernel
theorem dX2_append_57 : decode cX2_append 57 = .ok (.return_, 1) := by decide +kernel
theorem dX2_empty_0 : decode cX2_empty 0 = .ok (.aload_n 0, 1) := by decide +kernel
theorem dX2_empty_1 : decode cX2_empty 1 = .ok (.iconst 0, 1) := by decide +kernel
theorem dX2_empty_2 : decode cX2_empty 2 = .ok (.putfield 15, 3) := by decide +kernel
theorem dX2_empty_5 : decode cX2_empty 5 = .ok (.return_, 1) := by decide +kernel
set_option maxRecDepth 20000 in
theorem ggX2_firstFault_X2_stateAfter : GoodIn wsX2_firstFault wsX2_stateAfter := goodIn_r _ [6, 7, 8, 5, 9, 10, 11, 12, 13, 14, 15, 16, 17, 18] (by decide +kernel) (by decide +kernel)
set_option maxRecDepth 20000 in
theorem gX2_firstFault_X2_stateAfter : GoodIn wsX2_firstFault (va_wsS RX2 21 yX2_stateAfter wsX2_stateAfter) := goodIn_app (goodIn_of _ (by decide +kernel)) ggX2_firstFault_X2_stateAfter
theorem dX2_firstFault_0 : decode cX2_firstFault 0 = .ok (.iconst 0, 1) := by decide +kernel
theorem dX2_firstFault_1 : decode cX2_firstFault 1 = .ok (.istore_n 1, 1) := by decide +kernel
theorem dX2_firstFault_2 : decode cX2_firstFault 2 = .ok (.iconst 0, 1) := by decide +kernel
theorem dX2_firstFault_3 : decode cX2_firstFault 3 = .ok (.istore_n 2, 1) := by decide +kernel
theorem dX2_firstFault_4 : decode cX2_firstFault 4 = .ok (.iload_n 2, 1) := by decide +kernel
theorem dX2_firstFault_5 : decode cX2_firstFault 5 = .ok (.aload_n 0, 1) := by decide +kernel
theorem dX2_firstFault_6 : decode cX2_firstFault 6 = .ok (.getfield 15, 3) := by decide +kernel
theorem dX2_firstFault_9 : decode cX2_firstFault 9 = .ok (.if_icmp .ge 28, 3) := by decide +kernel
theorem dX2_firstFault_12 : decode cX2_firstFault 12 = .ok (.iload_n 1, 1) := by decide +kernel
theorem dX2_firstFault_13 : decode cX2_firstFault 13 = .ok (.aload_n 0, 1) := by decide +kernel
theorem dX2_firstFault_14 : decode cX2_firstFault 14 = .ok (.getfield 11, 3) := by decide +kernel
theorem dX2_firstFault_17 : decode cX2_firstFault 17 = .ok (.iload_n 2, 1) := by decide +kernel
theorem dX2_firstFault_18 : decode cX2_firstFault 18 = .ok (.caload, 1) := by decide +kernel
theorem dX2_firstFault_19 : decode cX2_firstFault 19 = .ok (.invokestatic 21, 3) := by decide +kernel
theorem dX2_firstFault_22 : decode cX2_firstFault 22 = .ok (.istore_n 1, 1) := by decide +kernel
theorem dX2_firstFault_23 : decode cX2_firstFault 23 = .ok (.iload_n 1, 1) := by decide +kernel
theorem dX2_firstFault_24 : decode cX2_firstFault 24 = .ok (.bipush 6, 2) := by decide +kernel
theorem dX2_firstFault_26 : decode cX2_firstFault 26 = .ok (.if_icmp .ne 5, 3) := by decide +kernel
theorem dX2_firstFault_29 : decode cX2_firstFault 29 = .ok (.iload_n 2, 1) := by decide +kernel
theorem dX2_firstFault_30 : decode cX2_firstFault 30 = .ok (.ireturn, 1) := by decide +kernel
theorem dX2_firstFault_31 : decode cX2_firstFault 31 = .ok (.iinc 2 1, 3) := by decide +kernel
theorem dX2_firstFault_34 : decode cX2_firstFault 34 = .ok (.goto (-30), 3) := by decide +kernel
theorem dX2_firstFault_37 : decode cX2_firstFault 37 = .ok (.iload_n 1, 1) := by decide +kernel
theorem dX2_firstFault_38 : decode cX2_firstFault 38 = .ok (.iconst 2, 1) := by decide +kernel
theorem dX2_firstFault_39 : decode cX2_firstFault 39 = .ok (.if_icmp .eq 13, 3) := by decide +kernel
theorem dX2_firstFault_42 : decode cX2_firstFault 42 = .ok (.iload_n 1, 1) := by decide +kernel
theorem dX2_firstFault_43 : decode cX2_firstFault 43 = .ok (.iconst 4, 1) := by decide +kernel
theorem dX2_firstFault_44 : decode cX2_firstFault 44 = .ok (.if_icmp .eq 8, 3) := by decide +kernel
theorem dX2_firstFault_47 : decode cX2_firstFault 47 = .ok (.iload_n 1, 1) := by decide +kernel
theorem dX2_firstFault_48 : decode cX2_firstFault 48 = .ok (.iconst 5, 1) := by decide +kernel
theorem dX2_firstFault_49 : decode cX2_firstFault 49 = .ok (.if_icmp .ne 7, 3) := by decide +kernel
theorem dX2_firstFault_52 : decode cX2_firstFault 52 = .ok (.iconst 1, 1) := by decide +kernel
theorem dX2_firstFault_53 : decode cX2_firstFault 53 = .ok (.goto 4, 3) := by decide +kernel
theorem dX2_firstFault_56 : decode cX2_firstFault 56 = .ok (.iconst 0, 1) := by decide +kernel
theorem dX2_firstFault_57 : decode cX2_firstFault 57 = .ok (.istore_n 2, 1) := by decide +kernel
theorem dX2_firstFault_58 : decode cX2_firstFault 58 = .ok (.iload_n 2, 1) := by decide +kernel
theorem dX2_firstFault_59 : decode cX2_firstFault 59 = .ok (.ifCond .eq 8, 3) := by decide +kernel
theorem dX2_firstFault_62 : decode cX2_firstFault 62 = .ok (.bipush (-6), 2) := by decide +kernel
theorem dX2_firstFault_64 : decode cX2_firstFault 64 = .ok (.goto 7, 3) := by decide +kernel
theorem dX2_firstFault_67 : decode cX2_firstFault 67 = .ok (.aload_n 0, 1) := by decide +kernel
theorem dX2_firstFault_68 : decode cX2_firstFault 68 = .ok (.getfield 15, 3) := by decide +kernel
theorem dX2_firstFault_71 : decode cX2_firstFault 71 = .ok (.ireturn, 1) := by decide +kernel
set_option maxRecDepth 20000 in
theorem ggX2_stateAfter_X2_isGateDigit : GoodIn wsX2_stateAfter wsX2_isGateDigit := goodIn_r _ [4] (by decide +kernel) (by decide +kernel)
set_option maxRecDepth 20000 in
theorem gX2_stateAfter_X2_isGateDigit : GoodIn wsX2_stateAfter (va_wsS RX2 25 yX2_isGateDigit wsX2_isGateDigit) := goodIn_app (goodIn_of _ (by decide +kernel)) ggX2_stateAfter_X2_isGateDigit
set_option maxRecDepth 20000 in
theorem ggX2_stateAfter_X2_beamOf : GoodIn wsX2_stateAfter wsX2_beamOf := goodIn_r _ [7] (by decide +kernel) (by decide +kernel)
set_option maxRecDepth 20000 in
theorem gX2_stateAfter_X2_beamOf : GoodIn wsX2_stateAfter (va_wsS RX2 29 yX2_beamOf wsX2_beamOf) := goodIn_app (goodIn_of _ (by decide +kernel)) ggX2_stateAfter_X2_beamOf
set_option maxRecDepth 20000 in
theorem ggX2_stateAfter_X2_afterEvent : GoodIn wsX2_stateAfter wsX2_afterEvent := goodIn_r _ [10] (by decide +kernel) (by decide +kernel)
set_option maxRecDepth 20000 in
theorem gX2_stateAfter_X2_afterEvent : GoodIn wsX2_stateAfter (va_wsS RX2 33 yX2_afterEvent wsX2_afterEvent) := goodIn_app (goodIn_of _ (by decide +kernel)) ggX2_stateAfter_X2_afterEvent
set_option maxRecDepth 20000 in
theorem ggX2_stateAfter_X2_isDigit : GoodIn wsX2_stateAfter wsX2_isDigit := goodIn_r _ [13] (by decide +kernel) (by decide +kernel)
set_option maxRecDepth 20000 in
theorem gX2_stateAfter_X2_isDigit : GoodIn wsX2_stateAfter (va_wsS RX2 36 yX2_isDigit wsX2_isDigit) := goodIn_app (goodIn_of _ (by decide +kernel)) ggX2_stateAfter_X2_isDigit
theorem dX2_stateAfter_0 : decode cX2_stateAfter 0 = .ok (.iload_n 0, 1) := by decide +kernel
theorem dX2_stateAfter_1 : decode cX2_stateAfter 1 = .ok (.tableswitch 123 0 4 #[35, 57, 71, 87, 107], 35) := by decide +kernel
theorem dX2_stateAfter_36 : decode cX2_stateAfter 36 = .ok (.iload_n 1, 1) := by decide +kernel
theorem dX2_stateAfter_37 : decode cX2_stateAfter 37 = .ok (.bipush 46, 2) := by decide +kernel
theorem dX2_stateAfter_39 : decode cX2_stateAfter 39 = .ok (.if_icmp .ne 5, 3) := by decide +kernel
theorem dX2_stateAfter_42 : decode cX2_stateAfter 42 = .ok (.iconst 3, 1) := by decide +kernel
theorem dX2_stateAfter_43 : decode cX2_stateAfter 43 = .ok (.ireturn, 1) := by decide +kernel
theorem dX2_stateAfter_44 : decode cX2_stateAfter 44 = .ok (.iload_n 1, 1) := by decide +kernel
theorem dX2_stateAfter_45 : decode cX2_stateAfter 45 = .ok (.invokestatic 25, 3) := by decide +kernel
theorem dX2_stateAfter_48 : decode cX2_stateAfter 48 = .ok (.ifCond .eq 7, 3) := by decide +kernel
theorem dX2_stateAfter_51 : decode cX2_stateAfter 51 = .ok (.iconst 1, 1) := by decide +kernel
theorem dX2_stateAfter_52 : decode cX2_stateAfter 52 = .ok (.goto 5, 3) := by decide +kernel
theorem dX2_stateAfter_55 : decode cX2_stateAfter 55 = .ok (.bipush 6, 2) := by decide +kernel
theorem dX2_stateAfter_57 : decode cX2_stateAfter 57 = .ok (.ireturn, 1) := by decide +kernel
theorem dX2_stateAfter_58 : decode cX2_stateAfter 58 = .ok (.iload_n 1, 1) := by decide +kernel
theorem dX2_stateAfter_59 : decode cX2_stateAfter 59 = .ok (.invokestatic 29, 3) := by decide +kernel
theorem dX2_stateAfter_62 : decode cX2_stateAfter 62 = .ok (.ifCond .lt 7, 3) := by decide +kernel
theorem dX2_stateAfter_65 : decode cX2_stateAfter 65 = .ok (.iconst 2, 1) := by decide +kernel
theorem dX2_stateAfter_66 : decode cX2_stateAfter 66 = .ok (.goto 5, 3) := by decide +kernel
theorem dX2_stateAfter_69 : decode cX2_stateAfter 69 = .ok (.bipush 6, 2) := by decide +kernel
theorem dX2_stateAfter_71 : decode cX2_stateAfter 71 = .ok (.ireturn, 1) := by decide +kernel
theorem dX2_stateAfter_72 : decode cX2_stateAfter 72 = .ok (.iload_n 1, 1) := by decide +kernel
theorem dX2_stateAfter_73 : decode cX2_stateAfter 73 = .ok (.invokestatic 29, 3) := by decide +kernel
theorem dX2_stateAfter_76 : decode cX2_stateAfter 76 = .ok (.ifCond .lt 7, 3) := by decide +kernel
theorem dX2_stateAfter_79 : decode cX2_stateAfter 79 = .ok (.iconst 2, 1) := by decide +kernel
theorem dX2_stateAfter_80 : decode cX2_stateAfter 80 = .ok (.goto 7, 3) := by decide +kernel
theorem dX2_stateAfter_83 : decode cX2_stateAfter 83 = .ok (.iload_n 1, 1) := by decide +kernel
theorem dX2_stateAfter_84 : decode cX2_stateAfter 84 = .ok (.invokestatic 33, 3) := by decide +kernel
theorem dX2_stateAfter_87 : decode cX2_stateAfter 87 = .ok (.ireturn, 1) := by decide +kernel
theorem dX2_stateAfter_88 : decode cX2_stateAfter 88 = .ok (.iload_n 1, 1) := by decide +kernel
theorem dX2_stateAfter_89 : decode cX2_stateAfter 89 = .ok (.invokestatic 36, 3) := by decide +kernel
theorem dX2_stateAfter_92 : decode cX2_stateAfter 92 = .ok (.ifCond .eq 13, 3) := by decide +kernel
theorem dX2_stateAfter_95 : decode cX2_stateAfter 95 = .ok (.iload_n 1, 1) := by decide +kernel
theorem dX2_stateAfter_96 : decode cX2_stateAfter 96 = .ok (.bipush 48, 2) := by decide +kernel
theorem dX2_stateAfter_98 : decode cX2_stateAfter 98 = .ok (.if_icmp .eq 7, 3) := by decide +kernel
theorem dX2_stateAfter_101 : decode cX2_stateAfter 101 = .ok (.iconst 4, 1) := by decide +kernel
theorem dX2_stateAfter_102 : decode cX2_stateAfter 102 = .ok (.goto 5, 3) := by decide +kernel
theorem dX2_stateAfter_105 : decode cX2_stateAfter 105 = .ok (.bipush 6, 2) := by decide +kernel
theorem dX2_stateAfter_107 : decode cX2_stateAfter 107 = .ok (.ireturn, 1) := by decide +kernel
theorem dX2_stateAfter_108 : decode cX2_stateAfter 108 = .ok (.iload_n 1, 1) := by decide +kernel
theorem dX2_stateAfter_109 : decode cX2_stateAfter 109 = .ok (.invokestatic 36, 3) := by decide +kernel
theorem dX2_stateAfter_112 : decode cX2_stateAfter 112 = .ok (.ifCond .eq 7, 3) := by decide +kernel
theorem dX2_stateAfter_115 : decode cX2_stateAfter 115 = .ok (.iconst 5, 1) := by decide +kernel
theorem dX2_stateAfter_116 : decode cX2_stateAfter 116 = .ok (.goto 7, 3) := by decide +kernel
theorem dX2_stateAfter_119 : decode cX2_stateAfter 119 = .ok (.iload_n 1, 1) := by decide +kernel
theorem dX2_stateAfter_120 : decode cX2_stateAfter 120 = .ok (.invokestatic 33, 3) := by decide +kernel
theorem dX2_stateAfter_123 : decode cX2_stateAfter 123 = .ok (.ireturn, 1) := by decide +kernel
theorem dX2_stateAfter_124 : decode cX2_stateAfter 124 = .ok (.iload_n 1, 1) := by decide +kernel
theorem dX2_stateAfter_125 : decode cX2_stateAfter 125 = .ok (.invokestatic 33, 3) := by decide +kernel
theorem dX2_stateAfter_128 : decode cX2_stateAfter 128 = .ok (.ireturn, 1) := by decide +kernel
theorem dX2_afterEvent_0 : decode cX2_afterEvent 0 = .ok (.iload_n 0, 1) := by decide +kernel
theorem dX2_afterEvent_1 : decode cX2_afterEvent 1 = .ok (.bipush 59, 2) := by decide +kernel
theorem dX2_afterEvent_3 : decode cX2_afterEvent 3 = .ok (.if_icmp .ne 7, 3) := by decide +kernel
theorem dX2_afterEvent_6 : decode cX2_afterEvent 6 = .ok (.iconst 0, 1) := by decide +kernel
theorem dX2_afterEvent_7 : decode cX2_afterEvent 7 = .ok (.goto 5, 3) := by decide +kernel
theorem dX2_afterEvent_10 : decode cX2_afterEvent 10 = .ok (.bipush 6, 2) := by decide +kernel
theorem dX2_afterEvent_12 : decode cX2_afterEvent 12 = .ok (.ireturn, 1) := by decide +kernel
theorem dX2_isDigit_0 : decode cX2_isDigit 0 = .ok (.iload_n 0, 1) := by decide +kernel
theorem dX2_isDigit_1 : decode cX2_isDigit 1 = .ok (.bipush 48, 2) := by decide +kernel
theorem dX2_isDigit_3 : decode cX2_isDigit 3 = .ok (.if_icmp .lt 13, 3) := by decide +kernel
theorem dX2_isDigit_6 : decode cX2_isDigit 6 = .ok (.iload_n 0, 1) := by decide +kernel
theorem dX2_isDigit_7 : decode cX2_isDigit 7 = .ok (.bipush 57, 2) := by decide +kernel
theorem dX2_isDigit_9 : decode cX2_isDigit 9 = .ok (.if_icmp .gt 7, 3) := by decide +kernel
theorem dX2_isDigit_12 : decode cX2_isDigit 12 = .ok (.iconst 1, 1) := by decide +kernel
theorem dX2_isDigit_13 : decode cX2_isDigit 13 = .ok (.goto 4, 3) := by decide +kernel
theorem dX2_isDigit_16 : decode cX2_isDigit 16 = .ok (.iconst 0, 1) := by decide +kernel
theorem dX2_isDigit_17 : decode cX2_isDigit 17 = .ok (.ireturn, 1) := by decide +kernel
theorem dX2_isGateDigit_0 : decode cX2_isGateDigit 0 = .ok (.iload_n 0, 1) := by decide +kernel
theorem dX2_isGateDigit_1 : decode cX2_isGateDigit 1 = .ok (.bipush 48, 2) := by decide +kernel
theorem dX2_isGateDigit_3 : decode cX2_isGateDigit 3 = .ok (.if_icmp .lt 13, 3) := by decide +kernel
theorem dX2_isGateDigit_6 : decode cX2_isGateDigit 6 = .ok (.iload_n 0, 1) := by decide +kernel
theorem dX2_isGateDigit_7 : decode cX2_isGateDigit 7 = .ok (.bipush 54, 2) := by decide +kernel
theorem dX2_isGateDigit_9 : decode cX2_isGateDigit 9 = .ok (.if_icmp .ge 7, 3) := by decide +kernel
theorem dX2_isGateDigit_12 : decode cX2_isGateDigit 12 = .ok (.iconst 1, 1) := by decide +kernel
theorem dX2_isGateDigit_13 : decode cX2_isGateDigit 13 = .ok (.goto 4, 3) := by decide +kernel
theorem dX2_isGateDigit_16 : decode cX2_isGateDigit 16 = .ok (.iconst 0, 1) := by decide +kernel
theorem dX2_isGateDigit_17 : decode cX2_isGateDigit 17 = .ok (.ireturn, 1) := by decide +kernel
theorem dX2_beamOf_0 : decode cX2_beamOf 0 = .ok (.iload_n 0, 1) := by decide +kernel
theorem dX2_beamOf_1 : decode cX2_beamOf 1 = .ok (.bipush 111, 2) := by decide +kernel
theorem dX2_beamOf_3 : decode cX2_beamOf 3 = .ok (.if_icmp .ne 5, 3) := by decide +kernel
theorem dX2_beamOf_6 : decode cX2_beamOf 6 = .ok (.iconst 0, 1) := by decide +kernel
theorem dX2_beamOf_7 : decode cX2_beamOf 7 = .ok (.ireturn, 1) := by decide +kernel
theorem dX2_beamOf_8 : decode cX2_beamOf 8 = .ok (.iload_n 0, 1) := by decide +kernel
theorem dX2_beamOf_9 : decode cX2_beamOf 9 = .ok (.bipush 105, 2) := by decide +kernel
theorem dX2_beamOf_11 : decode cX2_beamOf 11 = .ok (.if_icmp .ne 5, 3) := by decide +kernel
theorem dX2_beamOf_14 : decode cX2_beamOf 14 = .ok (.iconst 1, 1) := by decide +kernel
theorem dX2_beamOf_15 : decode cX2_beamOf 15 = .ok (.ireturn, 1) := by decide +kernel
theorem dX2_beamOf_16 : decode cX2_beamOf 16 = .ok (.iload_n 0, 1) := by decide +kernel
theorem dX2_beamOf_17 : decode cX2_beamOf 17 = .ok (.bipush 98, 2) := by decide +kernel
theorem dX2_beamOf_19 : decode cX2_beamOf 19 = .ok (.if_icmp .ne 7, 3) := by decide +kernel
theorem dX2_beamOf_22 : decode cX2_beamOf 22 = .ok (.iconst 2, 1) := by decide +kernel
theorem dX2_beamOf_23 : decode cX2_beamOf 23 = .ok (.goto 5, 3) := by decide +kernel
theorem dX2_beamOf_26 : decode cX2_beamOf 26 = .ok (.bipush (-6), 2) := by decide +kernel
theorem dX2_beamOf_28 : decode cX2_beamOf 28 = .ok (.ireturn, 1) := by decide +kernel
set_option maxRecDepth 20000 in
theorem ggX2_happenIn_X2_numberIn : GoodIn wsX2_happenIn wsX2_numberIn := goodIn_r _ [7, 2, 64, 65] (by decide +kernel) (by decide +kernel)
set_option maxRecDepth 20000 in
theorem gX2_happenIn_X2_numberIn : GoodIn wsX2_happenIn (wsV RX2 39 RX2 yX2_numberIn wsX2_numberIn) := goodIn_app (goodIn_of _ (by decide +kernel)) ggX2_happenIn_X2_numberIn
set_option maxRecDepth 20000 in
theorem ggX2_happenIn_X2_letGoBy : GoodIn wsX2_happenIn wsX2_letGoBy := goodIn_r _ [10, 11, 12, 13, 14, 15, 16, 17, 18, 19, 20, 21, 66] (by decide +kernel) (by decide +kernel)
set_option maxRecDepth 20000 in
theorem gX2_happenIn_X2_letGoBy : GoodIn wsX2_happenIn (va_wsS RX2 43 yX2_letGoBy wsX2_letGoBy) := goodIn_app (goodIn_of _ (by decide +kernel)) ggX2_happenIn_X2_letGoBy
set_option maxRecDepth 20000 in
theorem ggX2_happenIn_X2_changeBeams : GoodIn wsX2_happenIn wsX2_changeBeams := goodIn_r _ [25, 2, 26, 27, 28, 29, 30, 6, 31, 32, 33, 34, 14, 35, 16, 36, 37, 38, 39, 40, 41, 42, 43, 44, 45, 46, 47, 48, 49, 50, 51, 52, 53, 54, 55, 56, 57, 58, 59, 60, 61, 62, 63, 64, 65, 66] (by decide +kernel) (by decide +kernel)
set_option maxRecDepth 20000 in
theorem gX2_happenIn_X2_changeBeams : GoodIn wsX2_happenIn (wsV RX2 47 RX2 yX2_changeBeams wsX2_changeBeams) := goodIn_app (goodIn_of _ (by decide +kernel)) ggX2_happenIn_X2_changeBeams
theorem dX2_happenIn_0 : decode cX2_happenIn 0 = .ok (.iconst 0, 1) := by decide +kernel
theorem dX2_happenIn_1 : decode cX2_happenIn 1 = .ok (.istore_n 2, 1) := by decide +kernel
theorem dX2_happenIn_2 : decode cX2_happenIn 2 = .ok (.iconst 0, 1) := by decide +kernel
theorem dX2_happenIn_3 : decode cX2_happenIn 3 = .ok (.istore_n 3, 1) := by decide +kernel
theorem dX2_happenIn_4 : decode cX2_happenIn 4 = .ok (.iconst 0, 1) := by decide +kernel
theorem dX2_happenIn_5 : decode cX2_happenIn 5 = .ok (.istore 4, 2) := by decide +kernel
theorem dX2_happenIn_7 : decode cX2_happenIn 7 = .ok (.iload 4, 2) := by decide +kernel
theorem dX2_happenIn_9 : decode cX2_happenIn 9 = .ok (.aload_n 0, 1) := by decide +kernel
theorem dX2_happenIn_10 : decode cX2_happenIn 10 = .ok (.getfield 15, 3) := by decide +kernel
theorem dX2_happenIn_13 : decode cX2_happenIn 13 = .ok (.if_icmp .gt 91, 3) := by decide +kernel
theorem dX2_happenIn_16 : decode cX2_happenIn 16 = .ok (.iload 4, 2) := by decide +kernel
theorem dX2_happenIn_18 : decode cX2_happenIn 18 = .ok (.aload_n 0, 1) := by decide +kernel
theorem dX2_happenIn_19 : decode cX2_happenIn 19 = .ok (.getfield 15, 3) := by decide +kernel
theorem dX2_happenIn_22 : decode cX2_happenIn 22 = .ok (.if_icmp .eq 15, 3) := by decide +kernel
theorem dX2_happenIn_25 : decode cX2_happenIn 25 = .ok (.aload_n 0, 1) := by decide +kernel
theorem dX2_happenIn_26 : decode cX2_happenIn 26 = .ok (.getfield 11, 3) := by decide +kernel
theorem dX2_happenIn_29 : decode cX2_happenIn 29 = .ok (.iload 4, 2) := by decide +kernel
theorem dX2_happenIn_31 : decode cX2_happenIn 31 = .ok (.caload, 1) := by decide +kernel
theorem dX2_happenIn_32 : decode cX2_happenIn 32 = .ok (.bipush 59, 2) := by decide +kernel
theorem dX2_happenIn_34 : decode cX2_happenIn 34 = .ok (.if_icmp .ne 7, 3) := by decide +kernel
theorem dX2_happenIn_37 : decode cX2_happenIn 37 = .ok (.iconst 1, 1) := by decide +kernel
theorem dX2_happenIn_38 : decode cX2_happenIn 38 = .ok (.goto 4, 3) := by decide +kernel
theorem dX2_happenIn_41 : decode cX2_happenIn 41 = .ok (.iconst 0, 1) := by decide +kernel
theorem dX2_happenIn_42 : decode cX2_happenIn 42 = .ok (.istore 5, 2) := by decide +kernel
theorem dX2_happenIn_44 : decode cX2_happenIn 44 = .ok (.iload 5, 2) := by decide +kernel
theorem dX2_happenIn_46 : decode cX2_happenIn 46 = .ok (.ifCond .eq 52, 3) := by decide +kernel
theorem dX2_happenIn_49 : decode cX2_happenIn 49 = .ok (.iload_n 3, 1) := by decide +kernel
theorem dX2_happenIn_50 : decode cX2_happenIn 50 = .ok (.iload 4, 2) := by decide +kernel
theorem dX2_happenIn_52 : decode cX2_happenIn 52 = .ok (.if_icmp .ge 46, 3) := by decide +kernel
theorem dX2_happenIn_55 : decode cX2_happenIn 55 = .ok (.aload_n 0, 1) := by decide +kernel
theorem dX2_happenIn_56 : decode cX2_happenIn 56 = .ok (.getfield 11, 3) := by decide +kernel
theorem dX2_happenIn_59 : decode cX2_happenIn 59 = .ok (.iload_n 3, 1) := by decide +kernel
theorem dX2_happenIn_60 : decode cX2_happenIn 60 = .ok (.caload, 1) := by decide +kernel
theorem dX2_happenIn_61 : decode cX2_happenIn 61 = .ok (.bipush 46, 2) := by decide +kernel
theorem dX2_happenIn_63 : decode cX2_happenIn 63 = .ok (.if_icmp .ne 19, 3) := by decide +kernel
theorem dX2_happenIn_66 : decode cX2_happenIn 66 = .ok (.aload_n 1, 1) := by decide +kernel
theorem dX2_happenIn_67 : decode cX2_happenIn 67 = .ok (.aload_n 0, 1) := by decide +kernel
theorem dX2_happenIn_68 : decode cX2_happenIn 68 = .ok (.iload_n 3, 1) := by decide +kernel
theorem dX2_happenIn_69 : decode cX2_happenIn 69 = .ok (.iconst 1, 1) := by decide +kernel
theorem dX2_happenIn_70 : decode cX2_happenIn 70 = .ok (.iadd, 1) := by decide +kernel
theorem dX2_happenIn_71 : decode cX2_happenIn 71 = .ok (.iload 4, 2) := by decide +kernel
theorem dX2_happenIn_73 : decode cX2_happenIn 73 = .ok (.invokevirtual 39, 3) := by decide +kernel
theorem dX2_happenIn_76 : decode cX2_happenIn 76 = .ok (.invokestatic 43, 3) := by decide +kernel
theorem dX2_happenIn_79 : decode cX2_happenIn 79 = .ok (.goto 14, 3) := by decide +kernel
theorem dX2_happenIn_82 : decode cX2_happenIn 82 = .ok (.iload_n 2, 1) := by decide +kernel
theorem dX2_happenIn_83 : decode cX2_happenIn 83 = .ok (.aload_n 0, 1) := by decide +kernel
theorem dX2_happenIn_84 : decode cX2_happenIn 84 = .ok (.aload_n 1, 1) := by decide +kernel
theorem dX2_happenIn_85 : decode cX2_happenIn 85 = .ok (.iload_n 3, 1) := by decide +kernel
theorem dX2_happenIn_86 : decode cX2_happenIn 86 = .ok (.iload 4, 2) := by decide +kernel
theorem dX2_happenIn_88 : decode cX2_happenIn 88 = .ok (.invokevirtual 47, 3) := by decide +kernel
theorem dX2_happenIn_91 : decode cX2_happenIn 91 = .ok (.iadd, 1) := by decide +kernel
theorem dX2_happenIn_92 : decode cX2_happenIn 92 = .ok (.istore_n 2, 1) := by decide +kernel
theorem dX2_happenIn_93 : decode cX2_happenIn 93 = .ok (.iload 4, 2) := by decide +kernel
theorem dX2_happenIn_95 : decode cX2_happenIn 95 = .ok (.iconst 1, 1) := by decide +kernel
theorem dX2_happenIn_96 : decode cX2_happenIn 96 = .ok (.iadd, 1) := by decide +kernel
theorem dX2_happenIn_97 : decode cX2_happenIn 97 = .ok (.istore_n 3, 1) := by decide +kernel
theorem dX2_happenIn_98 : decode cX2_happenIn 98 = .ok (.iinc 4 1, 3) := by decide +kernel
theorem dX2_happenIn_101 : decode cX2_happenIn 101 = .ok (.goto (-94), 3) := by decide +kernel
theorem dX2_happenIn_104 : decode cX2_happenIn 104 = .ok (.iload_n 2, 1) := by decide +kernel
theorem dX2_happenIn_105 : decode cX2_happenIn 105 = .ok (.ireturn, 1) := by decide +kernel
set_option maxRecDepth 20000 in
theorem ggX2_changeBeams_X3_isNoGate : GoodIn wsX2_changeBeams wsX3_isNoGate := goodIn_r _ [4] (by decide +kernel) (by decide +kernel)
set_option maxRecDepth 20000 in
theorem gX2_changeBeams_X3_isNoGate_n51 : GoodIn wsX2_changeBeams (wsX3_isNoGate) := ggX2_changeBeams_X3_isNoGate
set_option maxRecDepth 20000 in
theorem ggX2_changeBeams_X2_beamOf : GoodIn wsX2_changeBeams wsX2_beamOf := goodIn_r _ [8] (by decide +kernel) (by decide +kernel)
set_option maxRecDepth 20000 in
theorem gX2_changeBeams_X2_beamOf : GoodIn wsX2_changeBeams (va_wsS RX2 29 yX2_beamOf wsX2_beamOf) := goodIn_app (goodIn_of _ (by decide +kernel)) ggX2_changeBeams_X2_beamOf
set_option maxRecDepth 20000 in
theorem ggX2_changeBeams_X0_change : GoodIn wsX2_changeBeams wsX0_change := goodIn_r _ [13, 14, 15, 16, 17, 12, 18, 19, 20, 21, 22, 23, 24, 25, 26, 27, 28, 29, 30, 31, 32, 33, 34, 35, 36, 37, 38, 39, 40, 41, 42, 45] (by decide +kernel) (by decide +kernel)
set_option maxRecDepth 20000 in
theorem gX2_changeBeams_X0_change : GoodIn wsX2_changeBeams (wsV RX2 55 RX0 yX0_change wsX0_change) := goodIn_app (goodIn_of _ (by decide +kernel)) ggX2_changeBeams_X0_change
theorem dX2_changeBeams_0 : decode cX2_changeBeams 0 = .ok (.aload_n 0, 1) := by decide +kernel
theorem dX2_changeBeams_1 : decode cX2_changeBeams 1 = .ok (.getfield 11, 3) := by decide +kernel
theorem dX2_changeBeams_4 : decode cX2_changeBeams 4 = .ok (.iload_n 2, 1) := by decide +kernel
theorem dX2_changeBeams_5 : decode cX2_changeBeams 5 = .ok (.caload, 1) := by decide +kernel
theorem dX2_changeBeams_6 : decode cX2_changeBeams 6 = .ok (.bipush 48, 2) := by decide +kernel
theorem dX2_changeBeams_8 : decode cX2_changeBeams 8 = .ok (.isub, 1) := by decide +kernel
theorem dX2_changeBeams_9 : decode cX2_changeBeams 9 = .ok (.istore 4, 2) := by decide +kernel
theorem dX2_changeBeams_11 : decode cX2_changeBeams 11 = .ok (.iload 4, 2) := by decide +kernel
theorem dX2_changeBeams_13 : decode cX2_changeBeams 13 = .ok (.invokestatic 51, 3) := by decide +kernel
theorem dX2_changeBeams_16 : decode cX2_changeBeams 16 = .ok (.ifCond .eq 5, 3) := by decide +kernel
theorem dX2_changeBeams_19 : decode cX2_changeBeams 19 = .ok (.iconst 0, 1) := by decide +kernel
theorem dX2_changeBeams_20 : decode cX2_changeBeams 20 = .ok (.ireturn, 1) := by decide +kernel
theorem dX2_changeBeams_21 : decode cX2_changeBeams 21 = .ok (.iconst 0, 1) := by decide +kernel
theorem dX2_changeBeams_22 : decode cX2_changeBeams 22 = .ok (.istore 5, 2) := by decide +kernel
theorem dX2_changeBeams_24 : decode cX2_changeBeams 24 = .ok (.iload_n 2, 1) := by decide +kernel
theorem dX2_changeBeams_25 : decode cX2_changeBeams 25 = .ok (.iconst 1, 1) := by decide +kernel
theorem dX2_changeBeams_26 : decode cX2_changeBeams 26 = .ok (.iadd, 1) := by decide +kernel
theorem dX2_changeBeams_27 : decode cX2_changeBeams 27 = .ok (.istore 6, 2) := by decide +kernel
theorem dX2_changeBeams_29 : decode cX2_changeBeams 29 = .ok (.iload 6, 2) := by decide +kernel
theorem dX2_changeBeams_31 : decode cX2_changeBeams 31 = .ok (.iload_n 3, 1) := by decide +kernel
theorem dX2_changeBeams_32 : decode cX2_changeBeams 32 = .ok (.if_icmp .ge 40, 3) := by decide +kernel
theorem dX2_changeBeams_35 : decode cX2_changeBeams 35 = .ok (.aload_n 0, 1) := by decide +kernel
theorem dX2_changeBeams_36 : decode cX2_changeBeams 36 = .ok (.getfield 11, 3) := by decide +kernel
theorem dX2_changeBeams_39 : decode cX2_changeBeams 39 = .ok (.iload 6, 2) := by decide +kernel
theorem dX2_changeBeams_41 : decode cX2_changeBeams 41 = .ok (.caload, 1) := by decide +kernel
theorem dX2_changeBeams_42 : decode cX2_changeBeams 42 = .ok (.invokestatic 29, 3) := by decide +kernel
theorem dX2_changeBeams_45 : decode cX2_changeBeams 45 = .ok (.istore 7, 2) := by decide +kernel
theorem dX2_changeBeams_47 : decode cX2_changeBeams 47 = .ok (.iload 7, 2) := by decide +kernel
theorem dX2_changeBeams_49 : decode cX2_changeBeams 49 = .ok (.ifCond .lt 17, 3) := by decide +kernel
theorem dX2_changeBeams_52 : decode cX2_changeBeams 52 = .ok (.aload_n 1, 1) := by decide +kernel
theorem dX2_changeBeams_53 : decode cX2_changeBeams 53 = .ok (.iload 4, 2) := by decide +kernel
theorem dX2_changeBeams_55 : decode cX2_changeBeams 55 = .ok (.iload 7, 2) := by decide +kernel
theorem dX2_changeBeams_57 : decode cX2_changeBeams 57 = .ok (.invokevirtual 55, 3) := by decide +kernel
theorem dX2_changeBeams_60 : decode cX2_changeBeams 60 = .ok (.ifCond .ne 6, 3) := by decide +kernel
theorem dX2_changeBeams_63 : decode cX2_changeBeams 63 = .ok (.iinc 5 1, 3) := by decide +kernel
theorem dX2_changeBeams_66 : decode cX2_changeBeams 66 = .ok (.iinc 6 1, 3) := by decide +kernel
theorem dX2_changeBeams_69 : decode cX2_changeBeams 69 = .ok (.goto (-40), 3) := by decide +kernel
theorem dX2_changeBeams_72 : decode cX2_changeBeams 72 = .ok (.iload 5, 2) := by decide +kernel
theorem dX2_changeBeams_74 : decode cX2_changeBeams 74 = .ok (.ireturn, 1) := by decide +kernel
theorem dX2_numberIn_0 : decode cX2_numberIn 0 = .ok (.iconst 0, 1) := by decide +kernel
theorem dX2_numberIn_1 : decode cX2_numberIn 1 = .ok (.istore_n 3, 1) := by decide +kernel
theorem dX2_numberIn_2 : decode cX2_numberIn 2 = .ok (.iload_n 1, 1) := by decide +kernel
theorem dX2_numberIn_3 : decode cX2_numberIn 3 = .ok (.istore 4, 2) := by decide +kernel
theorem dX2_numberIn_5 : decode cX2_numberIn 5 = .ok (.iload 4, 2) := by decide +kernel
theorem dX2_numberIn_7 : decode cX2_numberIn 7 = .ok (.iload_n 2, 1) := by decide +kernel
theorem dX2_numberIn_8 : decode cX2_numberIn 8 = .ok (.if_icmp .ge 25, 3) := by decide +kernel
theorem dX2_numberIn_11 : decode cX2_numberIn 11 = .ok (.iload_n 3, 1) := by decide +kernel
theorem dX2_numberIn_12 : decode cX2_numberIn 12 = .ok (.bipush 10, 2) := by decide +kernel
theorem dX2_numberIn_14 : decode cX2_numberIn 14 = .ok (.imul, 1) := by decide +kernel
theorem dX2_numberIn_15 : decode cX2_numberIn 15 = .ok (.aload_n 0, 1) := by decide +kernel
theorem dX2_numberIn_16 : decode cX2_numberIn 16 = .ok (.getfield 11, 3) := by decide +kernel
theorem dX2_numberIn_19 : decode cX2_numberIn 19 = .ok (.iload 4, 2) := by decide +kernel
theorem dX2_numberIn_21 : decode cX2_numberIn 21 = .ok (.caload, 1) := by decide +kernel
theorem dX2_numberIn_22 : decode cX2_numberIn 22 = .ok (.iadd, 1) := by decide +kernel
theorem dX2_numberIn_23 : decode cX2_numberIn 23 = .ok (.bipush 48, 2) := by decide +kernel
theorem dX2_numberIn_25 : decode cX2_numberIn 25 = .ok (.isub, 1) := by decide +kernel
theorem dX2_numberIn_26 : decode cX2_numberIn 26 = .ok (.istore_n 3, 1) := by decide +kernel
theorem dX2_numberIn_27 : decode cX2_numberIn 27 = .ok (.iinc 4 1, 3) := by decide +kernel
theorem dX2_numberIn_30 : decode cX2_numberIn 30 = .ok (.goto (-25), 3) := by decide +kernel
theorem dX2_numberIn_33 : decode cX2_numberIn 33 = .ok (.iload_n 3, 1) := by decide +kernel
theorem dX2_numberIn_34 : decode cX2_numberIn 34 = .ok (.ireturn, 1) := by decide +kernel
set_option maxRecDepth 20000 in
theorem ggX2_letGoBy_X0_hasRoomFor : GoodIn wsX2_letGoBy wsX0_hasRoomFor := goodIn_r _ [5, 6, 7, 12] (by decide +kernel) (by decide +kernel)
set_option maxRecDepth 20000 in
theorem gX2_letGoBy_X0_hasRoomFor : GoodIn wsX2_letGoBy (wsV RX2 60 RX0 yX0_hasRoomFor wsX0_hasRoomFor) := goodIn_app (goodIn_of _ (by decide +kernel)) ggX2_letGoBy_X0_hasRoomFor
set_option maxRecDepth 20000 in
theorem ggX2_letGoBy_X0_goBy : GoodIn wsX2_letGoBy wsX0_goBy := goodIn_r _ [11, 6, 12] (by decide +kernel) (by decide +kernel)
set_option maxRecDepth 20000 in
theorem gX2_letGoBy_X0_goBy : GoodIn wsX2_letGoBy (wsV RX2 63 RX0 yX0_goBy wsX0_goBy) := goodIn_app (goodIn_of _ (by decide +kernel)) ggX2_letGoBy_X0_goBy
theorem dX2_letGoBy_0 : decode cX2_letGoBy 0 = .ok (.aload_n 0, 1) := by decide +kernel
theorem dX2_letGoBy_1 : decode cX2_letGoBy 1 = .ok (.iload_n 1, 1) := by decide +kernel
theorem dX2_letGoBy_2 : decode cX2_letGoBy 2 = .ok (.invokevirtual 60, 3) := by decide +kernel
theorem dX2_letGoBy_5 : decode cX2_letGoBy 5 = .ok (.ifCond .eq 8, 3) := by decide +kernel
theorem dX2_letGoBy_8 : decode cX2_letGoBy 8 = .ok (.aload_n 0, 1) := by decide +kernel
theorem dX2_letGoBy_9 : decode cX2_letGoBy 9 = .ok (.iload_n 1, 1) := by decide +kernel
theorem dX2_letGoBy_10 : decode cX2_letGoBy 10 = .ok (.invokevirtual 63, 3) := by decide +kernel
theorem dX2_letGoBy_13 : decode cX2_letGoBy 13 = .ok (.return_, 1) := by decide +kernel
