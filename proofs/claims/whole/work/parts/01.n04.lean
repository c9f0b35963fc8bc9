theorem dX2_highestInTheEnd_1 : decode cX2_highestInTheEnd 1 = .ok (.getfield 11, 3) := by decide +kernel
theorem dX2_highestInTheEnd_4 : decode cX2_highestInTheEnd 4 = .ok (.bipush 7, 2) := by decide +kernel
theorem dX2_highestInTheEnd_6 : decode cX2_highestInTheEnd 6 = .ok (.iaload, 1) := by decide +kernel
theorem dX2_highestInTheEnd_7 : decode cX2_highestInTheEnd 7 = .ok (.istore_n 1, 1) := by decide +kernel
theorem dX2_highestInTheEnd_8 : decode cX2_highestInTheEnd 8 = .ok (.iconst 0, 1) := by decide +kernel
theorem dX2_highestInTheEnd_9 : decode cX2_highestInTheEnd 9 = .ok (.istore_n 2, 1) := by decide +kernel
theorem dX2_highestInTheEnd_10 : decode cX2_highestInTheEnd 10 = .ok (.iload_n 2, 1) := by decide +kernel
theorem dX2_highestInTheEnd_11 : decode cX2_highestInTheEnd 11 = .ok (.bipush 24, 2) := by decide +kernel
theorem dX2_highestInTheEnd_13 : decode cX2_highestInTheEnd 13 = .ok (.if_icmp .ge 23, 3) := by decide +kernel
theorem dX2_highestInTheEnd_16 : decode cX2_highestInTheEnd 16 = .ok (.aload_n 0, 1) := by decide +kernel
theorem dX2_highestInTheEnd_17 : decode cX2_highestInTheEnd 17 = .ok (.iload_n 2, 1) := by decide +kernel
theorem dX2_highestInTheEnd_18 : decode cX2_highestInTheEnd 18 = .ok (.iload_n 1, 1) := by decide +kernel
theorem dX2_highestInTheEnd_19 : decode cX2_highestInTheEnd 19 = .ok (.aload_n 0, 1) := by decide +kernel
theorem dX2_highestInTheEnd_20 : decode cX2_highestInTheEnd 20 = .ok (.getfield 11, 3) := by decide +kernel
theorem dX2_highestInTheEnd_23 : decode cX2_highestInTheEnd 23 = .ok (.iconst 0, 1) := by decide +kernel
theorem dX2_highestInTheEnd_24 : decode cX2_highestInTheEnd 24 = .ok (.iaload, 1) := by decide +kernel
theorem dX2_highestInTheEnd_25 : decode cX2_highestInTheEnd 25 = .ok (.ineg, 1) := by decide +kernel
theorem dX2_highestInTheEnd_26 : decode cX2_highestInTheEnd 26 = .ok (.invokevirtual 91, 3) := by decide +kernel
theorem dX2_highestInTheEnd_29 : decode cX2_highestInTheEnd 29 = .ok (.istore_n 1, 1) := by decide +kernel
theorem dX2_highestInTheEnd_30 : decode cX2_highestInTheEnd 30 = .ok (.iinc 2 1, 3) := by decide +kernel
theorem dX2_highestInTheEnd_33 : decode cX2_highestInTheEnd 33 = .ok (.goto (-23), 3) := by decide +kernel
theorem dX2_highestInTheEnd_36 : decode cX2_highestInTheEnd 36 = .ok (.iload_n 1, 1) := by decide +kernel
theorem dX2_highestInTheEnd_37 : decode cX2_highestInTheEnd 37 = .ok (.ireturn, 1) := by decide +kernel
theorem dX2_pumpedBy_0 : decode cX2_pumpedBy 0 = .ok (.iconst 0, 1) := by decide +kernel
theorem dX2_pumpedBy_1 : decode cX2_pumpedBy 1 = .ok (.iload_n 0, 1) := by decide +kernel
theorem dX2_pumpedBy_2 : decode cX2_pumpedBy 2 = .ok (.ineg, 1) := by decide +kernel
theorem dX2_pumpedBy_3 : decode cX2_pumpedBy 3 = .ok (.invokestatic 61, 3) := by decide +kernel
theorem dX2_pumpedBy_6 : decode cX2_pumpedBy 6 = .ok (.ireturn, 1) := by decide +kernel
theorem dX3_init_0 : decode cX3_init 0 = .ok (.aload_n 0, 1) := by decide +kernel
theorem dX3_init_1 : decode cX3_init 1 = .ok (.invokespecial 3, 3) := by decide +kernel
theorem dX3_init_4 : decode cX3_init 4 = .ok (.aload_n 0, 1) := by decide +kernel
theorem dX3_init_5 : decode cX3_init 5 = .ok (.bipush 80, 2) := by decide +kernel
theorem dX3_init_7 : decode cX3_init 7 = .ok (.newarray .char, 2) := by decide +kernel
theorem dX3_init_9 : decode cX3_init 9 = .ok (.putfield 9, 3) := by decide +kernel
theorem dX3_init_12 : decode cX3_init 12 = .ok (.aload_n 0, 1) := by decide +kernel
theorem dX3_init_13 : decode cX3_init 13 = .ok (.iconst 0, 1) := by decide +kernel
theorem dX3_init_14 : decode cX3_init 14 = .ok (.putfield 15, 3) := by decide +kernel
theorem dX3_init_17 : decode cX3_init 17 = .ok (.return_, 1) := by decide +kernel
theorem dX3_append_0 : decode cX3_append 0 = .ok (.iconst 0, 1) := by decide +kernel
theorem dX3_append_1 : decode cX3_append 1 = .ok (.istore_n 3, 1) := by decide +kernel
theorem dX3_append_2 : decode cX3_append 2 = .ok (.lload_n 1, 1) := by decide +kernel
theorem dX3_append_3 : decode cX3_append 3 = .ok (.lstore 4, 2) := by decide +kernel
theorem dX3_append_5 : decode cX3_append 5 = .ok (.iload_n 3, 1) := by decide +kernel
theorem dX3_append_6 : decode cX3_append 6 = .ok (.bipush 8, 2) := by decide +kernel
theorem dX3_append_8 : decode cX3_append 8 = .ok (.if_icmp .ge 56, 3) := by decide +kernel
theorem dX3_append_11 : decode cX3_append 11 = .ok (.lload 4, 2) := by decide +kernel
theorem dX3_append_13 : decode cX3_append 13 = .ok (.ldc2_w 19, 3) := by decide +kernel
theorem dX3_append_16 : decode cX3_append 16 = .ok (.land, 1) := by decide +kernel
theorem dX3_append_17 : decode cX3_append 17 = .ok (.lconst 0, 1) := by decide +kernel
theorem dX3_append_18 : decode cX3_append 18 = .ok (.lcmp, 1) := by decide +kernel
theorem dX3_append_19 : decode cX3_append 19 = .ok (.ifCond .eq 45, 3) := by decide +kernel
theorem dX3_append_22 : decode cX3_append 22 = .ok (.lload 4, 2) := by decide +kernel
theorem dX3_append_24 : decode cX3_append 24 = .ok (.ldc2_w 19, 3) := by decide +kernel
theorem dX3_append_27 : decode cX3_append 27 = .ok (.land, 1) := by decide +kernel
theorem dX3_append_28 : decode cX3_append 28 = .ok (.ldc2_w 21, 3) := by decide +kernel
theorem dX3_append_31 : decode cX3_append 31 = .ok (.lcmp, 1) := by decide +kernel
theorem dX3_append_32 : decode cX3_append 32 = .ok (.ifCond .lt 16, 3) := by decide +kernel
theorem dX3_append_35 : decode cX3_append 35 = .ok (.lload 4, 2) := by decide +kernel
theorem dX3_append_37 : decode cX3_append 37 = .ok (.ldc2_w 19, 3) := by decide +kernel
theorem dX3_append_40 : decode cX3_append 40 = .ok (.land, 1) := by decide +kernel
theorem dX3_append_41 : decode cX3_append 41 = .ok (.ldc2_w 23, 3) := by decide +kernel
theorem dX3_append_44 : decode cX3_append 44 = .ok (.lcmp, 1) := by decide +kernel
theorem dX3_append_45 : decode cX3_append 45 = .ok (.ifCond .le 6, 3) := by decide +kernel
theorem dX3_append_48 : decode cX3_append 48 = .ok (.bipush (-2), 2) := by decide +kernel
theorem dX3_append_50 : decode cX3_append 50 = .ok (.ireturn, 1) := by decide +kernel
theorem dX3_append_51 : decode cX3_append 51 = .ok (.iinc 3 1, 3) := by decide +kernel
theorem dX3_append_54 : decode cX3_append 54 = .ok (.lload 4, 2) := by decide +kernel
theorem dX3_append_56 : decode cX3_append 56 = .ok (.bipush 8, 2) := by decide +kernel
theorem dX3_append_58 : decode cX3_append 58 = .ok (.lushr, 1) := by decide +kernel
theorem dX3_append_59 : decode cX3_append 59 = .ok (.lstore 4, 2) := by decide +kernel
theorem dX3_append_61 : decode cX3_append 61 = .ok (.goto (-56), 3) := by decide +kernel
theorem dX3_append_64 : decode cX3_append 64 = .ok (.iload_n 3, 1) := by decide +kernel
theorem dX3_append_65 : decode cX3_append 65 = .ok (.ifCond .eq 10, 3) := by decide +kernel
theorem dX3_append_68 : decode cX3_append 68 = .ok (.lload 4, 2) := by decide +kernel
theorem dX3_append_70 : decode cX3_append 70 = .ok (.lconst 0, 1) := by decide +kernel
theorem dX3_append_71 : decode cX3_append 71 = .ok (.lcmp, 1) := by decide +kernel
theorem dX3_append_72 : decode cX3_append 72 = .ok (.ifCond .eq 6, 3) := by decide +kernel
theorem dX3_append_75 : decode cX3_append 75 = .ok (.bipush (-2), 2) := by decide +kernel
theorem dX3_append_77 : decode cX3_append 77 = .ok (.ireturn, 1) := by decide +kernel
theorem dX3_append_78 : decode cX3_append 78 = .ok (.aload_n 0, 1) := by decide +kernel
theorem dX3_append_79 : decode cX3_append 79 = .ok (.getfield 15, 3) := by decide +kernel
theorem dX3_append_82 : decode cX3_append 82 = .ok (.iload_n 3, 1) := by decide +kernel
theorem dX3_append_83 : decode cX3_append 83 = .ok (.iadd, 1) := by decide +kernel
theorem dX3_append_84 : decode cX3_append 84 = .ok (.bipush 80, 2) := by decide +kernel
theorem dX3_append_86 : decode cX3_append 86 = .ok (.if_icmp .le 6, 3) := by decide +kernel
theorem dX3_append_89 : decode cX3_append 89 = .ok (.bipush (-4), 2) := by decide +kernel
theorem dX3_append_91 : decode cX3_append 91 = .ok (.ireturn, 1) := by decide +kernel
theorem dX3_append_92 : decode cX3_append 92 = .ok (.iload_n 3, 1) := by decide +kernel
theorem dX3_append_93 : decode cX3_append 93 = .ok (.iconst 1, 1) := by decide +kernel
theorem dX3_append_94 : decode cX3_append 94 = .ok (.isub, 1) := by decide +kernel
theorem dX3_append_95 : decode cX3_append 95 = .ok (.istore 6, 2) := by decide +kernel
theorem dX3_append_97 : decode cX3_append 97 = .ok (.iload 6, 2) := by decide +kernel
theorem dX3_append_99 : decode cX3_append 99 = .ok (.ifCond .lt 41, 3) := by decide +kernel
theorem dX3_append_102 : decode cX3_append 102 = .ok (.aload_n 0, 1) := by decide +kernel
theorem dX3_append_103 : decode cX3_append 103 = .ok (.getfield 9, 3) := by decide +kernel
theorem dX3_append_106 : decode cX3_append 106 = .ok (.aload_n 0, 1) := by decide +kernel
theorem dX3_append_107 : decode cX3_append 107 = .ok (.getfield 15, 3) := by decide +kernel
theorem dX3_append_110 : decode cX3_append 110 = .ok (.lload_n 1, 1) := by decide +kernel
theorem dX3_append_111 : decode cX3_append 111 = .ok (.bipush 8, 2) := by decide +kernel
theorem dX3_append_113 : decode cX3_append 113 = .ok (.iload 6, 2) := by decide +kernel
theorem dX3_append_115 : decode cX3_append 115 = .ok (.imul, 1) := by decide +kernel
theorem dX3_append_116 : decode cX3_append 116 = .ok (.lushr, 1) := by decide +kernel
theorem dX3_append_117 : decode cX3_append 117 = .ok (.ldc2_w 19, 3) := by decide +kernel
theorem dX3_append_120 : decode cX3_append 120 = .ok (.land, 1) := by decide +kernel
theorem dX3_append_121 : decode cX3_append 121 = .ok (.l2i, 1) := by decide +kernel
theorem dX3_append_122 : decode cX3_append 122 = .ok (.i2c, 1) := by decide +kernel
theorem dX3_append_123 : decode cX3_append 123 = .ok (.castore, 1) := by decide +kernel
theorem dX3_append_124 : decode cX3_append 124 = .ok (.aload_n 0, 1) := by decide +kernel
theorem dX3_append_125 : decode cX3_append 125 = .ok (.dup, 1) := by decide +kernel
theorem dX3_append_126 : decode cX3_append 126 = .ok (.getfield 15, 3) := by decide +kernel
theorem dX3_append_129 : decode cX3_append 129 = .ok (.iconst 1, 1) := by decide +kernel
theorem dX3_append_130 : decode cX3_append 130 = .ok (.iadd, 1) := by decide +kernel
theorem dX3_append_131 : decode cX3_append 131 = .ok (.putfield 15, 3) := by decide +kernel
theorem dX3_append_134 : decode cX3_append 134 = .ok (.iinc 6 (-1), 3) := by decide +kernel
theorem dX3_append_137 : decode cX3_append 137 = .ok (.goto (-40), 3) := by decide +kernel
theorem dX3_append_140 : decode cX3_append 140 = .ok (.aload_n 0, 1) := by decide +kernel
theorem dX3_append_141 : decode cX3_append 141 = .ok (.getfield 15, 3) := by decide +kernel
theorem dX3_append_144 : decode cX3_append 144 = .ok (.ireturn, 1) := by decide +kernel
theorem dX3_empty_0 : decode cX3_empty 0 = .ok (.aload_n 0, 1) := by decide +kernel
theorem dX3_empty_1 : decode cX3_empty 1 = .ok (.getfield 15, 3) := by decide +kernel
theorem dX3_empty_4 : decode cX3_empty 4 = .ok (.istore_n 1, 1) := by decide +kernel
theorem dX3_empty_5 : decode cX3_empty 5 = .ok (.aload_n 0, 1) := by decide +kernel
theorem dX3_empty_6 : decode cX3_empty 6 = .ok (.iconst 0, 1) := by decide +kernel
theorem dX3_empty_7 : decode cX3_empty 7 = .ok (.putfield 15, 3) := by decide +kernel
theorem dX3_empty_10 : decode cX3_empty 10 = .ok (.iload_n 1, 1) := by decide +kernel
theorem dX3_empty_11 : decode cX3_empty 11 = .ok (.ireturn, 1) := by decide +kernel
theorem dX3_signAt_0 : decode cX3_signAt 0 = .ok (.iload_n 1, 1) := by decide +kernel
theorem dX3_signAt_1 : decode cX3_signAt 1 = .ok (.ifCond .lt 26, 3) := by decide +kernel
theorem dX3_signAt_4 : decode cX3_signAt 4 = .ok (.iload_n 1, 1) := by decide +kernel
theorem dX3_signAt_5 : decode cX3_signAt 5 = .ok (.aload_n 0, 1) := by decide +kernel
theorem dX3_signAt_6 : decode cX3_signAt 6 = .ok (.getfield 15, 3) := by decide +kernel
theorem dX3_signAt_9 : decode cX3_signAt 9 = .ok (.if_icmp .ge 18, 3) := by decide +kernel
theorem dX3_signAt_12 : decode cX3_signAt 12 = .ok (.iload_n 1, 1) := by decide +kernel
theorem dX3_signAt_13 : decode cX3_signAt 13 = .ok (.bipush 80, 2) := by decide +kernel
theorem dX3_signAt_15 : decode cX3_signAt 15 = .ok (.if_icmp .ge 12, 3) := by decide +kernel
theorem dX3_signAt_18 : decode cX3_signAt 18 = .ok (.aload_n 0, 1) := by decide +kernel
theorem dX3_signAt_19 : decode cX3_signAt 19 = .ok (.getfield 9, 3) := by decide +kernel
theorem dX3_signAt_22 : decode cX3_signAt 22 = .ok (.iload_n 1, 1) := by decide +kernel
theorem dX3_signAt_23 : decode cX3_signAt 23 = .ok (.caload, 1) := by decide +kernel
theorem dX3_signAt_24 : decode cX3_signAt 24 = .ok (.goto 4, 3) := by decide +kernel
theorem dX3_signAt_27 : decode cX3_signAt 27 = .ok (.iconst 0, 1) := by decide +kernel
theorem dX3_signAt_28 : decode cX3_signAt 28 = .ok (.ireturn, 1) := by decide +kernel
theorem dX4_init_0 : decode cX4_init 0 = .ok (.aload_n 0, 1) := by decide +kernel
theorem dX4_init_1 : decode cX4_init 1 = .ok (.invokespecial 3, 3) := by decide +kernel
theorem dX4_init_4 : decode cX4_init 4 = .ok (.aload_n 0, 1) := by decide +kernel
theorem dX4_init_5 : decode cX4_init 5 = .ok (.iconst 0, 1) := by decide +kernel
theorem dX4_init_6 : decode cX4_init 6 = .ok (.putfield 9, 3) := by decide +kernel
theorem dX4_init_9 : decode cX4_init 9 = .ok (.aload_n 0, 1) := by decide +kernel
theorem dX4_init_10 : decode cX4_init 10 = .ok (.iconst 0, 1) := by decide +kernel
theorem dX4_init_11 : decode cX4_init 11 = .ok (.putfield 15, 3) := by decide +kernel
theorem dX4_init_14 : decode cX4_init 14 = .ok (.aload_n 0, 1) := by decide +kernel
theorem dX4_init_15 : decode cX4_init 15 = .ok (.iconst 0, 1) := by decide +kernel
theorem dX4_init_16 : decode cX4_init 16 = .ok (.putfield 18, 3) := by decide +kernel
theorem dX4_init_19 : decode cX4_init 19 = .ok (.aload_n 0, 1) := by decide +kernel
theorem dX4_init_20 : decode cX4_init 20 = .ok (.iconst 0, 1) := by decide +kernel
theorem dX4_init_21 : decode cX4_init 21 = .ok (.putfield 22, 3) := by decide +kernel
theorem dX4_init_24 : decode cX4_init 24 = .ok (.aload_n 0, 1) := by decide +kernel
theorem dX4_init_25 : decode cX4_init 25 = .ok (.iconst 0, 1) := by decide +kernel
theorem dX4_init_26 : decode cX4_init 26 = .ok (.putfield 25, 3) := by decide +kernel
theorem dX4_init_29 : decode cX4_init 29 = .ok (.aload_n 0, 1) := by decide +kernel
theorem dX4_init_30 : decode cX4_init 30 = .ok (.iconst 0, 1) := by decide +kernel
theorem dX4_init_31 : decode cX4_init 31 = .ok (.putfield 28, 3) := by decide +kernel
theorem dX4_init_34 : decode cX4_init 34 = .ok (.aload_n 0, 1) := by decide +kernel
theorem dX4_init_35 : decode cX4_init 35 = .ok (.iconst 0, 1) := by decide +kernel
theorem dX4_init_36 : decode cX4_init 36 = .ok (.putfield 31, 3) := by decide +kernel
theorem dX4_init_39 : decode cX4_init 39 = .ok (.aload_n 0, 1) := by decide +kernel
theorem dX4_init_40 : decode cX4_init 40 = .ok (.iconst 0, 1) := by decide +kernel
theorem dX4_init_41 : decode cX4_init 41 = .ok (.putfield 34, 3) := by decide +kernel
theorem dX4_init_44 : decode cX4_init 44 = .ok (.aload_n 0, 1) := by decide +kernel
theorem dX4_init_45 : decode cX4_init 45 = .ok (.iconst 0, 1) := by decide +kernel
theorem dX4_init_46 : decode cX4_init 46 = .ok (.putfield 37, 3) := by decide +kernel
theorem dX4_init_49 : decode cX4_init 49 = .ok (.aload_n 0, 1) := by decide +kernel
theorem dX4_init_50 : decode cX4_init 50 = .ok (.aload_n 1, 1) := by decide +kernel
theorem dX4_init_51 : decode cX4_init 51 = .ok (.putfield 40, 3) := by decide +kernel
theorem dX4_init_54 : decode cX4_init 54 = .ok (.return_, 1) := by decide +kernel
theorem dX4_toTheBegin_0 : decode cX4_toTheBegin 0 = .ok (.aload_n 0, 1) := by decide +kernel
theorem dX4_toTheBegin_1 : decode cX4_toTheBegin 1 = .ok (.iconst 0, 1) := by decide +kernel
theorem dX4_toTheBegin_2 : decode cX4_toTheBegin 2 = .ok (.putfield 9, 3) := by decide +kernel
theorem dX4_toTheBegin_5 : decode cX4_toTheBegin 5 = .ok (.return_, 1) := by decide +kernel
set_option maxRecDepth 20000 in
theorem ggX4_findFault_X4_toTheBegin : GoodIn wsX4_findFault wsX4_toTheBegin := goodIn_r _ [7, 1, 49, 50, 51, 52, 53, 54, 55, 56, 57, 58] (by decide +kernel) (by decide +kernel)
set_option maxRecDepth 20000 in
theorem gX4_findFault_X4_toTheBegin : GoodIn wsX4_findFault (wsV RX4 44 RX4 yX4_toTheBegin wsX4_toTheBegin) := goodIn_app (goodIn_of _ (by decide +kernel)) ggX4_findFault_X4_toTheBegin
set_option maxRecDepth 20000 in
theorem ggX4_findFault_X4_readOrder : GoodIn wsX4_findFault wsX4_readOrder := goodIn_r _ [11, 2, 1, 12, 13, 14, 15, 16, 17, 18, 19, 20, 21, 6, 22, 23, 24, 25, 26, 27, 28, 29, 30, 31, 32, 33, 34, 35, 36, 37, 38, 39, 40, 41, 42, 43, 44, 45, 46, 47, 48, 49, 50, 51, 52, 53, 54, 55, 56, 57, 58, 59, 60] (by decide +kernel) (by decide +kernel)
set_option maxRecDepth 20000 in
theorem gX4_findFault_X4_readOrder : GoodIn wsX4_findFault (wsV RX4 47 RX4 yX4_readOrder wsX4_readOrder) := goodIn_app (goodIn_of _ (by decide +kernel)) ggX4_findFault_X4_readOrder
set_option maxRecDepth 20000 in
theorem ggX4_findFault_X4_readSign : GoodIn wsX4_findFault wsX4_readSign := goodIn_r _ [22, 2, 1, 13, 14, 15, 16, 17, 18, 49, 50, 51, 52, 53, 54, 55, 56, 57, 58, 59, 60] (by decide +kernel) (by decide +kernel)
set_option maxRecDepth 20000 in
theorem gX4_findFault_X4_readSign : GoodIn wsX4_findFault (wsV RX4 56 RX4 yX4_readSign wsX4_readSign) := goodIn_app (goodIn_of _ (by decide +kernel)) ggX4_findFault_X4_readSign
theorem dX4_findFault_0 : decode cX4_findFault 0 = .ok (.aload_n 0, 1) := by decide +kernel
theorem dX4_findFault_1 : decode cX4_findFault 1 = .ok (.invokevirtual 44, 3) := by decide +kernel
theorem dX4_findFault_4 : decode cX4_findFault 4 = .ok (.iconst 0, 1) := by decide +kernel
theorem dX4_findFault_5 : decode cX4_findFault 5 = .ok (.istore_n 1, 1) := by decide +kernel
theorem dX4_findFault_6 : decode cX4_findFault 6 = .ok (.iload_n 1, 1) := by decide +kernel
theorem dX4_findFault_7 : decode cX4_findFault 7 = .ok (.bipush 80, 2) := by decide +kernel
theorem dX4_findFault_9 : decode cX4_findFault 9 = .ok (.if_icmp .ge 52, 3) := by decide +kernel
theorem dX4_findFault_12 : decode cX4_findFault 12 = .ok (.aload_n 0, 1) := by decide +kernel
theorem dX4_findFault_13 : decode cX4_findFault 13 = .ok (.invokevirtual 47, 3) := by decide +kernel
theorem dX4_findFault_16 : decode cX4_findFault 16 = .ok (.ifCond .ne 8, 3) := by decide +kernel
theorem dX4_findFault_19 : decode cX4_findFault 19 = .ok (.aload_n 0, 1) := by decide +kernel
theorem dX4_findFault_20 : decode cX4_findFault 20 = .ok (.getfield 9, 3) := by decide +kernel
theorem dX4_findFault_23 : decode cX4_findFault 23 = .ok (.ireturn, 1) := by decide +kernel
theorem dX4_findFault_24 : decode cX4_findFault 24 = .ok (.aload_n 0, 1) := by decide +kernel
theorem dX4_findFault_25 : decode cX4_findFault 25 = .ok (.getfield 9, 3) := by decide +kernel
theorem dX4_findFault_28 : decode cX4_findFault 28 = .ok (.aload_n 0, 1) := by decide +kernel
theorem dX4_findFault_29 : decode cX4_findFault 29 = .ok (.getfield 40, 3) := by decide +kernel
theorem dX4_findFault_32 : decode cX4_findFault 32 = .ok (.getfield 51, 3) := by decide +kernel
theorem dX4_findFault_35 : decode cX4_findFault 35 = .ok (.if_icmp .lt 6, 3) := by decide +kernel
theorem dX4_findFault_38 : decode cX4_findFault 38 = .ok (.bipush (-6), 2) := by decide +kernel
theorem dX4_findFault_40 : decode cX4_findFault 40 = .ok (.ireturn, 1) := by decide +kernel
theorem dX4_findFault_41 : decode cX4_findFault 41 = .ok (.aload_n 0, 1) := by decide +kernel
theorem dX4_findFault_42 : decode cX4_findFault 42 = .ok (.bipush 59, 2) := by decide +kernel
theorem dX4_findFault_44 : decode cX4_findFault 44 = .ok (.invokevirtual 56, 3) := by decide +kernel
theorem dX4_findFault_47 : decode cX4_findFault 47 = .ok (.ifCond .ne 8, 3) := by decide +kernel
theorem dX4_findFault_50 : decode cX4_findFault 50 = .ok (.aload_n 0, 1) := by decide +kernel
theorem dX4_findFault_51 : decode cX4_findFault 51 = .ok (.getfield 9, 3) := by decide +kernel
theorem dX4_findFault_54 : decode cX4_findFault 54 = .ok (.ireturn, 1) := by decide +kernel
theorem dX4_findFault_55 : decode cX4_findFault 55 = .ok (.iinc 1 1, 3) := by decide +kernel
theorem dX4_findFault_58 : decode cX4_findFault 58 = .ok (.goto (-52), 3) := by decide +kernel
theorem dX4_findFault_61 : decode cX4_findFault 61 = .ok (.aload_n 0, 1) := by decide +kernel
theorem dX4_findFault_62 : decode cX4_findFault 62 = .ok (.getfield 9, 3) := by decide +kernel
theorem dX4_findFault_65 : decode cX4_findFault 65 = .ok (.ireturn, 1) := by decide +kernel
set_option maxRecDepth 20000 in
theorem ggX4_readOrder_X3_signAt : GoodIn wsX4_readOrder wsX3_signAt := goodIn_r _ [7, 8, 9, 51, 52] (by decide +kernel) (by decide +kernel)
set_option maxRecDepth 20000 in
theorem gX4_readOrder_X3_signAt_n60 : GoodIn wsX4_readOrder (wsX3_signAt) := ggX4_readOrder_X3_signAt
set_option maxRecDepth 20000 in
theorem ggX4_readOrder_X4_readSign : GoodIn wsX4_readOrder wsX4_readSign := goodIn_r _ [14, 1, 2, 4, 5, 6, 7, 8, 9, 41, 42, 43, 44, 45, 46, 47, 48, 49, 50, 51, 52] (by decide +kernel) (by decide +kernel)
set_option maxRecDepth 20000 in
theorem gX4_readOrder_X4_readSign : GoodIn wsX4_readOrder (wsV RX4 56 RX4 yX4_readSign wsX4_readSign) := goodIn_app (goodIn_of _ (by decide +kernel)) ggX4_readOrder_X4_readSign
set_option maxRecDepth 20000 in
theorem ggX4_readOrder_X4_readContract : GoodIn wsX4_readOrder wsX4_readContract := goodIn_r _ [18, 19, 20, 21, 22, 23, 24, 25, 26, 13, 27, 1, 2, 4, 5, 6, 7, 8, 9, 28, 29, 30, 10, 11, 12, 14, 41, 42, 43, 44, 45, 46, 47, 48, 49, 50, 51, 52] (by decide +kernel) (by decide +kernel)
set_option maxRecDepth 20000 in
theorem gX4_readOrder_X4_readContract : GoodIn wsX4_readOrder (wsV RX4 64 RX4 yX4_readContract wsX4_readContract) := goodIn_app (goodIn_of _ (by decide +kernel)) ggX4_readOrder_X4_readContract
set_option maxRecDepth 20000 in
theorem ggX4_readOrder_X4_readHours : GoodIn wsX4_readOrder wsX4_readHours := goodIn_r _ [34, 19, 20, 35, 24, 25, 26, 13, 27, 1, 2, 4, 5, 6, 7, 8, 9, 28, 29, 30, 10, 11, 12, 14, 41, 42, 43, 44, 45, 46, 47, 48, 49, 50, 51, 52] (by decide +kernel) (by decide +kernel)
set_option maxRecDepth 20000 in
theorem gX4_readOrder_X4_readHours : GoodIn wsX4_readOrder (wsV RX4 67 RX4 yX4_readHours wsX4_readHours) := goodIn_app (goodIn_of _ (by decide +kernel)) ggX4_readOrder_X4_readHours
set_option maxRecDepth 20000 in
theorem ggX4_readOrder_X4_readValue : GoodIn wsX4_readOrder wsX4_readValue := goodIn_r _ [39, 3, 19, 40, 10, 11, 12, 13, 14, 1, 2, 4, 5, 6, 7, 8, 9, 24, 25, 26, 27, 28, 29, 30, 41, 42, 43, 44, 45, 46, 47, 48, 49, 50, 51, 52] (by decide +kernel) (by decide +kernel)
set_option maxRecDepth 20000 in
theorem gX4_readOrder_X4_readValue : GoodIn wsX4_readOrder (wsV RX4 70 RX4 yX4_readValue wsX4_readValue) := goodIn_app (goodIn_of _ (by decide +kernel)) ggX4_readOrder_X4_readValue
theorem dX4_readOrder_0 : decode cX4_readOrder 0 = .ok (.aload_n 0, 1) := by decide +kernel
theorem dX4_readOrder_1 : decode cX4_readOrder 1 = .ok (.aload_n 0, 1) := by decide +kernel
theorem dX4_readOrder_2 : decode cX4_readOrder 2 = .ok (.getfield 40, 3) := by decide +kernel
theorem dX4_readOrder_5 : decode cX4_readOrder 5 = .ok (.aload_n 0, 1) := by decide +kernel
theorem dX4_readOrder_6 : decode cX4_readOrder 6 = .ok (.getfield 9, 3) := by decide +kernel
theorem dX4_readOrder_9 : decode cX4_readOrder 9 = .ok (.invokevirtual 60, 3) := by decide +kernel
theorem dX4_readOrder_12 : decode cX4_readOrder 12 = .ok (.putfield 18, 3) := by decide +kernel
theorem dX4_readOrder_15 : decode cX4_readOrder 15 = .ok (.aload_n 0, 1) := by decide +kernel
theorem dX4_readOrder_16 : decode cX4_readOrder 16 = .ok (.getfield 18, 3) := by decide +kernel
theorem dX4_readOrder_19 : decode cX4_readOrder 19 = .ok (.bipush 97, 2) := by decide +kernel
theorem dX4_readOrder_21 : decode cX4_readOrder 21 = .ok (.if_icmp .ne 10, 3) := by decide +kernel
theorem dX4_readOrder_24 : decode cX4_readOrder 24 = .ok (.aload_n 0, 1) := by decide +kernel
theorem dX4_readOrder_25 : decode cX4_readOrder 25 = .ok (.bipush 97, 2) := by decide +kernel
theorem dX4_readOrder_27 : decode cX4_readOrder 27 = .ok (.invokevirtual 56, 3) := by decide +kernel
theorem dX4_readOrder_30 : decode cX4_readOrder 30 = .ok (.ireturn, 1) := by decide +kernel
theorem dX4_readOrder_31 : decode cX4_readOrder 31 = .ok (.aload_n 0, 1) := by decide +kernel
theorem dX4_readOrder_32 : decode cX4_readOrder 32 = .ok (.getfield 18, 3) := by decide +kernel
theorem dX4_readOrder_35 : decode cX4_readOrder 35 = .ok (.bipush 99, 2) := by decide +kernel
theorem dX4_readOrder_37 : decode cX4_readOrder 37 = .ok (.if_icmp .ne 25, 3) := by decide +kernel
theorem dX4_readOrder_40 : decode cX4_readOrder 40 = .ok (.aload_n 0, 1) := by decide +kernel
theorem dX4_readOrder_41 : decode cX4_readOrder 41 = .ok (.bipush 99, 2) := by decide +kernel
theorem dX4_readOrder_43 : decode cX4_readOrder 43 = .ok (.invokevirtual 56, 3) := by decide +kernel
theorem dX4_readOrder_46 : decode cX4_readOrder 46 = .ok (.ifCond .eq 14, 3) := by decide +kernel
theorem dX4_readOrder_49 : decode cX4_readOrder 49 = .ok (.aload_n 0, 1) := by decide +kernel
theorem dX4_readOrder_50 : decode cX4_readOrder 50 = .ok (.invokevirtual 64, 3) := by decide +kernel
theorem dX4_readOrder_53 : decode cX4_readOrder 53 = .ok (.ifCond .eq 7, 3) := by decide +kernel
theorem dX4_readOrder_56 : decode cX4_readOrder 56 = .ok (.iconst 1, 1) := by decide +kernel
theorem dX4_readOrder_57 : decode cX4_readOrder 57 = .ok (.goto 4, 3) := by decide +kernel
theorem dX4_readOrder_60 : decode cX4_readOrder 60 = .ok (.iconst 0, 1) := by decide +kernel
theorem dX4_readOrder_61 : decode cX4_readOrder 61 = .ok (.ireturn, 1) := by decide +kernel
theorem dX4_readOrder_62 : decode cX4_readOrder 62 = .ok (.aload_n 0, 1) := by decide +kernel
theorem dX4_readOrder_63 : decode cX4_readOrder 63 = .ok (.getfield 18, 3) := by decide +kernel
theorem dX4_readOrder_66 : decode cX4_readOrder 66 = .ok (.bipush 112, 2) := by decide +kernel
theorem dX4_readOrder_68 : decode cX4_readOrder 68 = .ok (.if_icmp .eq 21, 3) := by decide +kernel
theorem dX4_readOrder_71 : decode cX4_readOrder 71 = .ok (.aload_n 0, 1) := by decide +kernel
theorem dX4_readOrder_72 : decode cX4_readOrder 72 = .ok (.getfield 18, 3) := by decide +kernel
theorem dX4_readOrder_75 : decode cX4_readOrder 75 = .ok (.bipush 105, 2) := by decide +kernel
theorem dX4_readOrder_77 : decode cX4_readOrder 77 = .ok (.if_icmp .eq 12, 3) := by decide +kernel
theorem dX4_readOrder_80 : decode cX4_readOrder 80 = .ok (.aload_n 0, 1) := by decide +kernel
theorem dX4_readOrder_81 : decode cX4_readOrder 81 = .ok (.getfield 18, 3) := by decide +kernel
theorem dX4_readOrder_84 : decode cX4_readOrder 84 = .ok (.bipush 117, 2) := by decide +kernel
theorem dX4_readOrder_86 : decode cX4_readOrder 86 = .ok (.if_icmp .ne 43, 3) := by decide +kernel
theorem dX4_readOrder_89 : decode cX4_readOrder 89 = .ok (.aload_n 0, 1) := by decide +kernel
theorem dX4_readOrder_90 : decode cX4_readOrder 90 = .ok (.aload_n 0, 1) := by decide +kernel
theorem dX4_readOrder_91 : decode cX4_readOrder 91 = .ok (.getfield 18, 3) := by decide +kernel
theorem dX4_readOrder_94 : decode cX4_readOrder 94 = .ok (.invokevirtual 56, 3) := by decide +kernel
theorem dX4_readOrder_97 : decode cX4_readOrder 97 = .ok (.ifCond .eq 30, 3) := by decide +kernel
theorem dX4_readOrder_100 : decode cX4_readOrder 100 = .ok (.aload_n 0, 1) := by decide +kernel
theorem dX4_readOrder_101 : decode cX4_readOrder 101 = .ok (.invokevirtual 67, 3) := by decide +kernel
theorem dX4_readOrder_104 : decode cX4_readOrder 104 = .ok (.ifCond .eq 23, 3) := by decide +kernel
theorem dX4_readOrder_107 : decode cX4_readOrder 107 = .ok (.aload_n 0, 1) := by decide +kernel
theorem dX4_readOrder_108 : decode cX4_readOrder 108 = .ok (.bipush 61, 2) := by decide +kernel
theorem dX4_readOrder_110 : decode cX4_readOrder 110 = .ok (.invokevirtual 56, 3) := by decide +kernel
theorem dX4_readOrder_113 : decode cX4_readOrder 113 = .ok (.ifCond .eq 14, 3) := by decide +kernel
theorem dX4_readOrder_116 : decode cX4_readOrder 116 = .ok (.aload_n 0, 1) := by decide +kernel
theorem dX4_readOrder_117 : decode cX4_readOrder 117 = .ok (.invokevirtual 70, 3) := by decide +kernel
theorem dX4_readOrder_120 : decode cX4_readOrder 120 = .ok (.ifCond .eq 7, 3) := by decide +kernel
theorem dX4_readOrder_123 : decode cX4_readOrder 123 = .ok (.iconst 1, 1) := by decide +kernel
theorem dX4_readOrder_124 : decode cX4_readOrder 124 = .ok (.goto 4, 3) := by decide +kernel
theorem dX4_readOrder_127 : decode cX4_readOrder 127 = .ok (.iconst 0, 1) := by decide +kernel
theorem dX4_readOrder_128 : decode cX4_readOrder 128 = .ok (.ireturn, 1) := by decide +kernel
theorem dX4_readOrder_129 : decode cX4_readOrder 129 = .ok (.iconst 0, 1) := by decide +kernel
theorem dX4_readOrder_130 : decode cX4_readOrder 130 = .ok (.ireturn, 1) := by decide +kernel
set_option maxRecDepth 20000 in
theorem ggX4_readHours_X4_readNumber : GoodIn wsX4_readHours wsX4_readNumber := goodIn_r _ [8, 9, 10, 1, 11, 12, 13, 14, 15, 16, 17, 18, 7, 19, 24, 25, 26, 27, 28, 29, 30, 31, 32, 33, 34, 35] (by decide +kernel) (by decide +kernel)
set_option maxRecDepth 20000 in
theorem gX4_readHours_X4_readNumber : GoodIn wsX4_readHours (wsV RX4 73 RX4 yX4_readNumber wsX4_readNumber) := goodIn_app (goodIn_of _ (by decide +kernel)) ggX4_readHours_X4_readNumber
set_option maxRecDepth 20000 in
theorem ggX4_readHours_X4_readSign : GoodIn wsX4_readHours wsX4_readSign := goodIn_r _ [23, 9, 10, 11, 12, 13, 14, 15, 16, 24, 25, 26, 27, 28, 29, 30, 31, 32, 33, 34, 35] (by decide +kernel) (by decide +kernel)
set_option maxRecDepth 20000 in
theorem gX4_readHours_X4_readSign : GoodIn wsX4_readHours (wsV RX4 56 RX4 yX4_readSign wsX4_readSign) := goodIn_app (goodIn_of _ (by decide +kernel)) ggX4_readHours_X4_readSign
theorem dX4_readHours_0 : decode cX4_readHours 0 = .ok (.aload_n 0, 1) := by decide +kernel
theorem dX4_readHours_1 : decode cX4_readHours 1 = .ok (.invokevirtual 73, 3) := by decide +kernel
theorem dX4_readHours_4 : decode cX4_readHours 4 = .ok (.ifCond .ne 5, 3) := by decide +kernel
theorem dX4_readHours_7 : decode cX4_readHours 7 = .ok (.iconst 0, 1) := by decide +kernel
theorem dX4_readHours_8 : decode cX4_readHours 8 = .ok (.ireturn, 1) := by decide +kernel
theorem dX4_readHours_9 : decode cX4_readHours 9 = .ok (.aload_n 0, 1) := by decide +kernel
theorem dX4_readHours_10 : decode cX4_readHours 10 = .ok (.aload_n 0, 1) := by decide +kernel
theorem dX4_readHours_11 : decode cX4_readHours 11 = .ok (.getfield 15, 3) := by decide +kernel
theorem dX4_readHours_14 : decode cX4_readHours 14 = .ok (.putfield 22, 3) := by decide +kernel
theorem dX4_readHours_17 : decode cX4_readHours 17 = .ok (.aload_n 0, 1) := by decide +kernel
theorem dX4_readHours_18 : decode cX4_readHours 18 = .ok (.bipush 45, 2) := by decide +kernel
theorem dX4_readHours_20 : decode cX4_readHours 20 = .ok (.invokevirtual 56, 3) := by decide +kernel
theorem dX4_readHours_23 : decode cX4_readHours 23 = .ok (.ifCond .eq 12, 3) := by decide +kernel
theorem dX4_readHours_26 : decode cX4_readHours 26 = .ok (.aload_n 0, 1) := by decide +kernel
theorem dX4_readHours_27 : decode cX4_readHours 27 = .ok (.invokevirtual 73, 3) := by decide +kernel
theorem dX4_readHours_30 : decode cX4_readHours 30 = .ok (.ifCond .ne 5, 3) := by decide +kernel
theorem dX4_readHours_33 : decode cX4_readHours 33 = .ok (.iconst 0, 1) := by decide +kernel
theorem dX4_readHours_34 : decode cX4_readHours 34 = .ok (.ireturn, 1) := by decide +kernel
theorem dX4_readHours_35 : decode cX4_readHours 35 = .ok (.aload_n 0, 1) := by decide +kernel
theorem dX4_readHours_36 : decode cX4_readHours 36 = .ok (.aload_n 0, 1) := by decide +kernel
theorem dX4_readHours_37 : decode cX4_readHours 37 = .ok (.getfield 15, 3) := by decide +kernel
theorem dX4_readHours_40 : decode cX4_readHours 40 = .ok (.putfield 25, 3) := by decide +kernel
theorem dX4_readHours_43 : decode cX4_readHours 43 = .ok (.iconst 1, 1) := by decide +kernel
theorem dX4_readHours_44 : decode cX4_readHours 44 = .ok (.ireturn, 1) := by decide +kernel
set_option maxRecDepth 20000 in
theorem ggX4_readValue_X4_readSign : GoodIn wsX4_readValue wsX4_readSign := goodIn_r _ [8, 9, 10, 11, 12, 13, 14, 15, 16, 24, 25, 26, 27, 28, 29, 30, 31, 32, 33, 34, 35] (by decide +kernel) (by decide +kernel)
set_option maxRecDepth 20000 in
theorem gX4_readValue_X4_readSign : GoodIn wsX4_readValue (wsV RX4 56 RX4 yX4_readSign wsX4_readSign) := goodIn_app (goodIn_of _ (by decide +kernel)) ggX4_readValue_X4_readSign
set_option maxRecDepth 20000 in
theorem ggX4_readValue_X4_readNumber : GoodIn wsX4_readValue wsX4_readNumber := goodIn_r _ [20, 9, 10, 2, 11, 12, 13, 14, 15, 16, 21, 22, 7, 23, 24, 25, 26, 27, 28, 29, 30, 31, 32, 33, 34, 35] (by decide +kernel) (by decide +kernel)
set_option maxRecDepth 20000 in
theorem gX4_readValue_X4_readNumber : GoodIn wsX4_readValue (wsV RX4 73 RX4 yX4_readNumber wsX4_readNumber) := goodIn_app (goodIn_of _ (by decide +kernel)) ggX4_readValue_X4_readNumber
theorem dX4_readValue_0 : decode cX4_readValue 0 = .ok (.aload_n 0, 1) := by decide +kernel
theorem dX4_readValue_1 : decode cX4_readValue 1 = .ok (.getfield 18, 3) := by decide +kernel
theorem dX4_readValue_4 : decode cX4_readValue 4 = .ok (.bipush 117, 2) := by decide +kernel
theorem dX4_readValue_6 : decode cX4_readValue 6 = .ok (.if_icmp .ne 16, 3) := by decide +kernel
theorem dX4_readValue_9 : decode cX4_readValue 9 = .ok (.aload_n 0, 1) := by decide +kernel
theorem dX4_readValue_10 : decode cX4_readValue 10 = .ok (.bipush 45, 2) := by decide +kernel
theorem dX4_readValue_12 : decode cX4_readValue 12 = .ok (.invokevirtual 56, 3) := by decide +kernel
theorem dX4_readValue_15 : decode cX4_readValue 15 = .ok (.ifCond .eq 7, 3) := by decide +kernel
theorem dX4_readValue_18 : decode cX4_readValue 18 = .ok (.iconst 1, 1) := by decide +kernel
theorem dX4_readValue_19 : decode cX4_readValue 19 = .ok (.goto 4, 3) := by decide +kernel
theorem dX4_readValue_22 : decode cX4_readValue 22 = .ok (.iconst 0, 1) := by decide +kernel
theorem dX4_readValue_23 : decode cX4_readValue 23 = .ok (.istore_n 1, 1) := by decide +kernel
theorem dX4_readValue_24 : decode cX4_readValue 24 = .ok (.aload_n 0, 1) := by decide +kernel
theorem dX4_readValue_25 : decode cX4_readValue 25 = .ok (.invokevirtual 73, 3) := by decide +kernel
theorem dX4_readValue_28 : decode cX4_readValue 28 = .ok (.ifCond .ne 5, 3) := by decide +kernel
theorem dX4_readValue_31 : decode cX4_readValue 31 = .ok (.iconst 0, 1) := by decide +kernel
theorem dX4_readValue_32 : decode cX4_readValue 32 = .ok (.ireturn, 1) := by decide +kernel
theorem dX4_readValue_33 : decode cX4_readValue 33 = .ok (.aload_n 0, 1) := by decide +kernel
theorem dX4_readValue_34 : decode cX4_readValue 34 = .ok (.iload_n 1, 1) := by decide +kernel
theorem dX4_readValue_35 : decode cX4_readValue 35 = .ok (.ifCond .eq 11, 3) := by decide +kernel
theorem dX4_readValue_38 : decode cX4_readValue 38 = .ok (.aload_n 0, 1) := by decide +kernel
theorem dX4_readValue_39 : decode cX4_readValue 39 = .ok (.getfield 15, 3) := by decide +kernel
theorem dX4_readValue_42 : decode cX4_readValue 42 = .ok (.ineg, 1) := by decide +kernel
theorem dX4_readValue_43 : decode cX4_readValue 43 = .ok (.goto 7, 3) := by decide +kernel
theorem dX4_readValue_46 : decode cX4_readValue 46 = .ok (.aload_n 0, 1) := by decide +kernel
theorem dX4_readValue_47 : decode cX4_readValue 47 = .ok (.getfield 15, 3) := by decide +kernel
theorem dX4_readValue_50 : decode cX4_readValue 50 = .ok (.putfield 28, 3) := by decide +kernel
theorem dX4_readValue_53 : decode cX4_readValue 53 = .ok (.iconst 1, 1) := by decide +kernel
theorem dX4_readValue_54 : decode cX4_readValue 54 = .ok (.ireturn, 1) := by decide +kernel
set_option maxRecDepth 20000 in
theorem ggX4_readContract_X4_readNumber : GoodIn wsX4_readContract wsX4_readNumber := goodIn_r _ [10, 11, 12, 1, 13, 14, 15, 16, 17, 18, 19, 20, 9, 21, 26, 27, 28, 29, 30, 31, 32, 33, 34, 35, 36, 37] (by decide +kernel) (by decide +kernel)
set_option maxRecDepth 20000 in
theorem gX4_readContract_X4_readNumber : GoodIn wsX4_readContract (wsV RX4 73 RX4 yX4_readNumber wsX4_readNumber) := goodIn_app (goodIn_of _ (by decide +kernel)) ggX4_readContract_X4_readNumber
set_option maxRecDepth 20000 in
theorem ggX4_readContract_X4_readSign : GoodIn wsX4_readContract wsX4_readSign := goodIn_r _ [25, 11, 12, 13, 14, 15, 16, 17, 18, 26, 27, 28, 29, 30, 31, 32, 33, 34, 35, 36, 37] (by decide +kernel) (by decide +kernel)
set_option maxRecDepth 20000 in
theorem gX4_readContract_X4_readSign : GoodIn wsX4_readContract (wsV RX4 56 RX4 yX4_readSign wsX4_readSign) := goodIn_app (goodIn_of _ (by decide +kernel)) ggX4_readContract_X4_readSign
theorem dX4_readContract_0 : decode cX4_readContract 0 = .ok (.aload_n 0, 1) := by decide +kernel
theorem dX4_readContract_1 : decode cX4_readContract 1 = .ok (.invokevirtual 73, 3) := by decide +kernel
theorem dX4_readContract_4 : decode cX4_readContract 4 = .ok (.ifCond .ne 5, 3) := by decide +kernel
theorem dX4_readContract_7 : decode cX4_readContract 7 = .ok (.iconst 0, 1) := by decide +kernel
theorem dX4_readContract_8 : decode cX4_readContract 8 = .ok (.ireturn, 1) := by decide +kernel
theorem dX4_readContract_9 : decode cX4_readContract 9 = .ok (.aload_n 0, 1) := by decide +kernel
theorem dX4_readContract_10 : decode cX4_readContract 10 = .ok (.aload_n 0, 1) := by decide +kernel
theorem dX4_readContract_11 : decode cX4_readContract 11 = .ok (.getfield 15, 3) := by decide +kernel
theorem dX4_readContract_14 : decode cX4_readContract 14 = .ok (.putfield 22, 3) := by decide +kernel
theorem dX4_readContract_17 : decode cX4_readContract 17 = .ok (.aload_n 0, 1) := by decide +kernel
theorem dX4_readContract_18 : decode cX4_readContract 18 = .ok (.bipush 58, 2) := by decide +kernel
theorem dX4_readContract_20 : decode cX4_readContract 20 = .ok (.invokevirtual 56, 3) := by decide +kernel
theorem dX4_readContract_23 : decode cX4_readContract 23 = .ok (.ifCond .eq 10, 3) := by decide +kernel
theorem dX4_readContract_26 : decode cX4_readContract 26 = .ok (.aload_n 0, 1) := by decide +kernel
theorem dX4_readContract_27 : decode cX4_readContract 27 = .ok (.invokevirtual 73, 3) := by decide +kernel
theorem dX4_readContract_30 : decode cX4_readContract 30 = .ok (.ifCond .ne 5, 3) := by decide +kernel
theorem dX4_readContract_33 : decode cX4_readContract 33 = .ok (.iconst 0, 1) := by decide +kernel
theorem dX4_readContract_34 : decode cX4_readContract 34 = .ok (.ireturn, 1) := by decide +kernel
theorem dX4_readContract_35 : decode cX4_readContract 35 = .ok (.aload_n 0, 1) := by decide +kernel
theorem dX4_readContract_36 : decode cX4_readContract 36 = .ok (.aload_n 0, 1) := by decide +kernel
theorem dX4_readContract_37 : decode cX4_readContract 37 = .ok (.getfield 15, 3) := by decide +kernel
theorem dX4_readContract_40 : decode cX4_readContract 40 = .ok (.putfield 31, 3) := by decide +kernel
theorem dX4_readContract_43 : decode cX4_readContract 43 = .ok (.aload_n 0, 1) := by decide +kernel
theorem dX4_readContract_44 : decode cX4_readContract 44 = .ok (.bipush 43, 2) := by decide +kernel
theorem dX4_readContract_46 : decode cX4_readContract 46 = .ok (.invokevirtual 56, 3) := by decide +kernel
theorem dX4_readContract_49 : decode cX4_readContract 49 = .ok (.ifCond .eq 10, 3) := by decide +kernel
theorem dX4_readContract_52 : decode cX4_readContract 52 = .ok (.aload_n 0, 1) := by decide +kernel
theorem dX4_readContract_53 : decode cX4_readContract 53 = .ok (.invokevirtual 73, 3) := by decide +kernel
theorem dX4_readContract_56 : decode cX4_readContract 56 = .ok (.ifCond .ne 5, 3) := by decide +kernel
theorem dX4_readContract_59 : decode cX4_readContract 59 = .ok (.iconst 0, 1) := by decide +kernel
theorem dX4_readContract_60 : decode cX4_readContract 60 = .ok (.ireturn, 1) := by decide +kernel
theorem dX4_readContract_61 : decode cX4_readContract 61 = .ok (.aload_n 0, 1) := by decide +kernel
theorem dX4_readContract_62 : decode cX4_readContract 62 = .ok (.aload_n 0, 1) := by decide +kernel
theorem dX4_readContract_63 : decode cX4_readContract 63 = .ok (.getfield 15, 3) := by decide +kernel
theorem dX4_readContract_66 : decode cX4_readContract 66 = .ok (.putfield 34, 3) := by decide +kernel
theorem dX4_readContract_69 : decode cX4_readContract 69 = .ok (.aload_n 0, 1) := by decide +kernel
