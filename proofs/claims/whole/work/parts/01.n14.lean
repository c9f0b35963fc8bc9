theorem dX7_highest_73 : decode cX7_highest 73 = .ok (.iload_n 2, 1) := by decide +kernel
theorem dX7_highest_74 : decode cX7_highest 74 = .ok (.sipush 201, 3) := by decide +kernel
theorem dX7_highest_77 : decode cX7_highest 77 = .ok (.if_icmp .ge 63, 3) := by decide +kernel
theorem dX7_highest_80 : decode cX7_highest 80 = .ok (.aload_n 0, 1) := by decide +kernel
theorem dX7_highest_81 : decode cX7_highest 81 = .ok (.getfield 7, 3) := by decide +kernel
theorem dX7_highest_84 : decode cX7_highest 84 = .ok (.iconst 0, 1) := by decide +kernel
theorem dX7_highest_85 : decode cX7_highest 85 = .ok (.iaload, 1) := by decide +kernel
theorem dX7_highest_86 : decode cX7_highest 86 = .ok (.ineg, 1) := by decide +kernel
theorem dX7_highest_87 : decode cX7_highest 87 = .ok (.istore_n 3, 1) := by decide +kernel
theorem dX7_highest_88 : decode cX7_highest 88 = .ok (.iload_n 3, 1) := by decide +kernel
theorem dX7_highest_89 : decode cX7_highest 89 = .ok (.aload_n 0, 1) := by decide +kernel
theorem dX7_highest_90 : decode cX7_highest 90 = .ok (.getfield 7, 3) := by decide +kernel
theorem dX7_highest_93 : decode cX7_highest 93 = .ok (.iconst 1, 1) := by decide +kernel
theorem dX7_highest_94 : decode cX7_highest 94 = .ok (.iaload, 1) := by decide +kernel
theorem dX7_highest_95 : decode cX7_highest 95 = .ok (.if_icmp .gt 39, 3) := by decide +kernel
theorem dX7_highest_98 : decode cX7_highest 98 = .ok (.aload_n 0, 1) := by decide +kernel
theorem dX7_highest_99 : decode cX7_highest 99 = .ok (.getfield 32, 3) := by decide +kernel
theorem dX7_highest_102 : decode cX7_highest 102 = .ok (.iload_n 2, 1) := by decide +kernel
theorem dX7_highest_103 : decode cX7_highest 103 = .ok (.baload, 1) := by decide +kernel
theorem dX7_highest_104 : decode cX7_highest 104 = .ok (.ifCond .eq 30, 3) := by decide +kernel
theorem dX7_highest_107 : decode cX7_highest 107 = .ok (.aload_n 0, 1) := by decide +kernel
theorem dX7_highest_108 : decode cX7_highest 108 = .ok (.iload_n 1, 1) := by decide +kernel
theorem dX7_highest_109 : decode cX7_highest 109 = .ok (.iload_n 2, 1) := by decide +kernel
theorem dX7_highest_110 : decode cX7_highest 110 = .ok (.iload_n 3, 1) := by decide +kernel
theorem dX7_highest_111 : decode cX7_highest 111 = .ok (.invokevirtual 83, 3) := by decide +kernel
theorem dX7_highest_114 : decode cX7_highest 114 = .ok (.aload_n 0, 1) := by decide +kernel
theorem dX7_highest_115 : decode cX7_highest 115 = .ok (.getfield 32, 3) := by decide +kernel
theorem dX7_highest_118 : decode cX7_highest 118 = .ok (.sipush 201, 3) := by decide +kernel
theorem dX7_highest_121 : decode cX7_highest 121 = .ok (.aload_n 0, 1) := by decide +kernel
theorem dX7_highest_122 : decode cX7_highest 122 = .ok (.getfield 60, 3) := by decide +kernel
theorem dX7_highest_125 : decode cX7_highest 125 = .ok (.iadd, 1) := by decide +kernel
theorem dX7_highest_126 : decode cX7_highest 126 = .ok (.iconst 1, 1) := by decide +kernel
theorem dX7_highest_127 : decode cX7_highest 127 = .ok (.bastore, 1) := by decide +kernel
theorem dX7_highest_128 : decode cX7_highest 128 = .ok (.iinc 3 1, 3) := by decide +kernel
theorem dX7_highest_131 : decode cX7_highest 131 = .ok (.goto (-43), 3) := by decide +kernel
theorem dX7_highest_134 : decode cX7_highest 134 = .ok (.iinc 2 1, 3) := by decide +kernel
theorem dX7_highest_137 : decode cX7_highest 137 = .ok (.goto (-64), 3) := by decide +kernel
theorem dX7_highest_140 : decode cX7_highest 140 = .ok (.iconst 0, 1) := by decide +kernel
theorem dX7_highest_141 : decode cX7_highest 141 = .ok (.istore_n 2, 1) := by decide +kernel
theorem dX7_highest_142 : decode cX7_highest 142 = .ok (.iload_n 2, 1) := by decide +kernel
theorem dX7_highest_143 : decode cX7_highest 143 = .ok (.sipush 201, 3) := by decide +kernel
theorem dX7_highest_146 : decode cX7_highest 146 = .ok (.if_icmp .ge 25, 3) := by decide +kernel
theorem dX7_highest_149 : decode cX7_highest 149 = .ok (.aload_n 0, 1) := by decide +kernel
theorem dX7_highest_150 : decode cX7_highest 150 = .ok (.getfield 32, 3) := by decide +kernel
theorem dX7_highest_153 : decode cX7_highest 153 = .ok (.iload_n 2, 1) := by decide +kernel
theorem dX7_highest_154 : decode cX7_highest 154 = .ok (.aload_n 0, 1) := by decide +kernel
theorem dX7_highest_155 : decode cX7_highest 155 = .ok (.getfield 32, 3) := by decide +kernel
theorem dX7_highest_158 : decode cX7_highest 158 = .ok (.sipush 201, 3) := by decide +kernel
theorem dX7_highest_161 : decode cX7_highest 161 = .ok (.iload_n 2, 1) := by decide +kernel
theorem dX7_highest_162 : decode cX7_highest 162 = .ok (.iadd, 1) := by decide +kernel
theorem dX7_highest_163 : decode cX7_highest 163 = .ok (.baload, 1) := by decide +kernel
theorem dX7_highest_164 : decode cX7_highest 164 = .ok (.bastore, 1) := by decide +kernel
theorem dX7_highest_165 : decode cX7_highest 165 = .ok (.iinc 2 1, 3) := by decide +kernel
theorem dX7_highest_168 : decode cX7_highest 168 = .ok (.goto (-26), 3) := by decide +kernel
theorem dX7_highest_171 : decode cX7_highest 171 = .ok (.iinc 1 1, 3) := by decide +kernel
theorem dX7_highest_174 : decode cX7_highest 174 = .ok (.goto (-135), 3) := by decide +kernel
theorem dX7_highest_177 : decode cX7_highest 177 = .ok (.iconst 0, 1) := by decide +kernel
theorem dX7_highest_178 : decode cX7_highest 178 = .ok (.istore_n 1, 1) := by decide +kernel
theorem dX7_highest_179 : decode cX7_highest 179 = .ok (.iconst 0, 1) := by decide +kernel
theorem dX7_highest_180 : decode cX7_highest 180 = .ok (.istore_n 2, 1) := by decide +kernel
theorem dX7_highest_181 : decode cX7_highest 181 = .ok (.iload_n 2, 1) := by decide +kernel
theorem dX7_highest_182 : decode cX7_highest 182 = .ok (.sipush 201, 3) := by decide +kernel
theorem dX7_highest_185 : decode cX7_highest 185 = .ok (.if_icmp .ge 24, 3) := by decide +kernel
theorem dX7_highest_188 : decode cX7_highest 188 = .ok (.aload_n 0, 1) := by decide +kernel
theorem dX7_highest_189 : decode cX7_highest 189 = .ok (.getfield 32, 3) := by decide +kernel
theorem dX7_highest_192 : decode cX7_highest 192 = .ok (.iload_n 2, 1) := by decide +kernel
theorem dX7_highest_193 : decode cX7_highest 193 = .ok (.baload, 1) := by decide +kernel
theorem dX7_highest_194 : decode cX7_highest 194 = .ok (.ifCond .eq 7, 3) := by decide +kernel
theorem dX7_highest_197 : decode cX7_highest 197 = .ok (.iload_n 2, 1) := by decide +kernel
theorem dX7_highest_198 : decode cX7_highest 198 = .ok (.goto 4, 3) := by decide +kernel
theorem dX7_highest_201 : decode cX7_highest 201 = .ok (.iload_n 1, 1) := by decide +kernel
theorem dX7_highest_202 : decode cX7_highest 202 = .ok (.istore_n 1, 1) := by decide +kernel
theorem dX7_highest_203 : decode cX7_highest 203 = .ok (.iinc 2 1, 3) := by decide +kernel
theorem dX7_highest_206 : decode cX7_highest 206 = .ok (.goto (-25), 3) := by decide +kernel
theorem dX7_highest_209 : decode cX7_highest 209 = .ok (.iload_n 1, 1) := by decide +kernel
theorem dX7_highest_210 : decode cX7_highest 210 = .ok (.ireturn, 1) := by decide +kernel
theorem dX7_byteOf_0 : decode cX7_byteOf 0 = .ok (.lload_n 0, 1) := by decide +kernel
theorem dX7_byteOf_1 : decode cX7_byteOf 1 = .ok (.bipush 8, 2) := by decide +kernel
theorem dX7_byteOf_3 : decode cX7_byteOf 3 = .ok (.iload_n 2, 1) := by decide +kernel
theorem dX7_byteOf_4 : decode cX7_byteOf 4 = .ok (.imul, 1) := by decide +kernel
theorem dX7_byteOf_5 : decode cX7_byteOf 5 = .ok (.lshr, 1) := by decide +kernel
theorem dX7_byteOf_6 : decode cX7_byteOf 6 = .ok (.ldc2_w 155, 3) := by decide +kernel
theorem dX7_byteOf_9 : decode cX7_byteOf 9 = .ok (.land, 1) := by decide +kernel
theorem dX7_byteOf_10 : decode cX7_byteOf 10 = .ok (.l2i, 1) := by decide +kernel
theorem dX7_byteOf_11 : decode cX7_byteOf 11 = .ok (.ireturn, 1) := by decide +kernel
set_option maxRecDepth 20000 in
theorem ggX7_toldBy_X7_byteOf : GoodIn wsX7_toldBy wsX7_byteOf := goodIn_r _ [4, 5] (by decide +kernel) (by decide +kernel)
set_option maxRecDepth 20000 in
theorem gX7_toldBy_X7_byteOf : GoodIn wsX7_toldBy (va_wsS RX7 157 yX7_byteOf wsX7_byteOf) := goodIn_app (goodIn_of _ (by decide +kernel)) ggX7_toldBy_X7_byteOf
set_option maxRecDepth 20000 in
theorem ggX7_toldBy_X7_in : GoodIn wsX7_toldBy wsX7_in := goodIn_r _ [8] (by decide +kernel) (by decide +kernel)
set_option maxRecDepth 20000 in
theorem gX7_toldBy_X7_in : GoodIn wsX7_toldBy (va_wsS RX7 35 yX7_in wsX7_in) := goodIn_app (goodIn_of _ (by decide +kernel)) ggX7_toldBy_X7_in
theorem dX7_toldBy_0 : decode cX7_toldBy 0 = .ok (.iconst 0, 1) := by decide +kernel
theorem dX7_toldBy_1 : decode cX7_toldBy 1 = .ok (.istore_n 2, 1) := by decide +kernel
theorem dX7_toldBy_2 : decode cX7_toldBy 2 = .ok (.iload_n 2, 1) := by decide +kernel
theorem dX7_toldBy_3 : decode cX7_toldBy 3 = .ok (.bipush 8, 2) := by decide +kernel
theorem dX7_toldBy_5 : decode cX7_toldBy 5 = .ok (.if_icmp .ge 35, 3) := by decide +kernel
theorem dX7_toldBy_8 : decode cX7_toldBy 8 = .ok (.lload_n 0, 1) := by decide +kernel
theorem dX7_toldBy_9 : decode cX7_toldBy 9 = .ok (.iload_n 2, 1) := by decide +kernel
theorem dX7_toldBy_10 : decode cX7_toldBy 10 = .ok (.invokestatic 157, 3) := by decide +kernel
theorem dX7_toldBy_13 : decode cX7_toldBy 13 = .ok (.ifCond .eq 27, 3) := by decide +kernel
theorem dX7_toldBy_16 : decode cX7_toldBy 16 = .ok (.lload_n 0, 1) := by decide +kernel
theorem dX7_toldBy_17 : decode cX7_toldBy 17 = .ok (.iload_n 2, 1) := by decide +kernel
theorem dX7_toldBy_18 : decode cX7_toldBy 18 = .ok (.invokestatic 157, 3) := by decide +kernel
theorem dX7_toldBy_21 : decode cX7_toldBy 21 = .ok (.bipush 33, 2) := by decide +kernel
theorem dX7_toldBy_23 : decode cX7_toldBy 23 = .ok (.bipush 126, 2) := by decide +kernel
theorem dX7_toldBy_25 : decode cX7_toldBy 25 = .ok (.invokestatic 35, 3) := by decide +kernel
theorem dX7_toldBy_28 : decode cX7_toldBy 28 = .ok (.ifCond .ne 6, 3) := by decide +kernel
theorem dX7_toldBy_31 : decode cX7_toldBy 31 = .ok (.bipush (-2), 2) := by decide +kernel
theorem dX7_toldBy_33 : decode cX7_toldBy 33 = .ok (.ireturn, 1) := by decide +kernel
theorem dX7_toldBy_34 : decode cX7_toldBy 34 = .ok (.iinc 2 1, 3) := by decide +kernel
theorem dX7_toldBy_37 : decode cX7_toldBy 37 = .ok (.goto (-35), 3) := by decide +kernel
theorem dX7_toldBy_40 : decode cX7_toldBy 40 = .ok (.iload_n 2, 1) := by decide +kernel
theorem dX7_toldBy_41 : decode cX7_toldBy 41 = .ok (.istore_n 3, 1) := by decide +kernel
theorem dX7_toldBy_42 : decode cX7_toldBy 42 = .ok (.iload_n 3, 1) := by decide +kernel
theorem dX7_toldBy_43 : decode cX7_toldBy 43 = .ok (.bipush 8, 2) := by decide +kernel
theorem dX7_toldBy_45 : decode cX7_toldBy 45 = .ok (.if_icmp .ge 20, 3) := by decide +kernel
theorem dX7_toldBy_48 : decode cX7_toldBy 48 = .ok (.lload_n 0, 1) := by decide +kernel
theorem dX7_toldBy_49 : decode cX7_toldBy 49 = .ok (.iload_n 3, 1) := by decide +kernel
theorem dX7_toldBy_50 : decode cX7_toldBy 50 = .ok (.invokestatic 157, 3) := by decide +kernel
theorem dX7_toldBy_53 : decode cX7_toldBy 53 = .ok (.ifCond .eq 6, 3) := by decide +kernel
theorem dX7_toldBy_56 : decode cX7_toldBy 56 = .ok (.bipush (-2), 2) := by decide +kernel
theorem dX7_toldBy_58 : decode cX7_toldBy 58 = .ok (.ireturn, 1) := by decide +kernel
theorem dX7_toldBy_59 : decode cX7_toldBy 59 = .ok (.iinc 3 1, 3) := by decide +kernel
theorem dX7_toldBy_62 : decode cX7_toldBy 62 = .ok (.goto (-20), 3) := by decide +kernel
theorem dX7_toldBy_65 : decode cX7_toldBy 65 = .ok (.iload_n 2, 1) := by decide +kernel
theorem dX7_toldBy_66 : decode cX7_toldBy 66 = .ok (.ifCond .ne 8, 3) := by decide +kernel
theorem dX7_toldBy_69 : decode cX7_toldBy 69 = .ok (.bipush (-2), 2) := by decide +kernel
theorem dX7_toldBy_71 : decode cX7_toldBy 71 = .ok (.goto 4, 3) := by decide +kernel
theorem dX7_toldBy_74 : decode cX7_toldBy 74 = .ok (.iload_n 2, 1) := by decide +kernel
theorem dX7_toldBy_75 : decode cX7_toldBy 75 = .ok (.ireturn, 1) := by decide +kernel
set_option maxRecDepth 20000 in
theorem ggX7_put_X7_toldBy : GoodIn wsX7_put wsX7_toldBy := goodIn_r _ [6, 7, 8, 5, 9, 10, 11, 12, 13] (by decide +kernel) (by decide +kernel)
set_option maxRecDepth 20000 in
theorem gX7_put_X7_toldBy : GoodIn wsX7_put (va_wsS RX7 161 yX7_toldBy wsX7_toldBy) := goodIn_app (goodIn_of _ (by decide +kernel)) ggX7_put_X7_toldBy
set_option maxRecDepth 20000 in
theorem ggX7_put_X7_byteOf : GoodIn wsX7_put wsX7_byteOf := goodIn_r _ [9, 10] (by decide +kernel) (by decide +kernel)
set_option maxRecDepth 20000 in
theorem gX7_put_X7_byteOf : GoodIn wsX7_put (va_wsS RX7 157 yX7_byteOf wsX7_byteOf) := goodIn_app (goodIn_of _ (by decide +kernel)) ggX7_put_X7_byteOf
theorem dX7_put_0 : decode cX7_put 0 = .ok (.lload_n 1, 1) := by decide +kernel
theorem dX7_put_1 : decode cX7_put 1 = .ok (.invokestatic 161, 3) := by decide +kernel
theorem dX7_put_4 : decode cX7_put 4 = .ok (.istore_n 3, 1) := by decide +kernel
theorem dX7_put_5 : decode cX7_put 5 = .ok (.iload_n 3, 1) := by decide +kernel
theorem dX7_put_6 : decode cX7_put 6 = .ok (.ifCond .ge 5, 3) := by decide +kernel
theorem dX7_put_9 : decode cX7_put 9 = .ok (.iload_n 3, 1) := by decide +kernel
theorem dX7_put_10 : decode cX7_put 10 = .ok (.ireturn, 1) := by decide +kernel
theorem dX7_put_11 : decode cX7_put 11 = .ok (.aload_n 0, 1) := by decide +kernel
theorem dX7_put_12 : decode cX7_put 12 = .ok (.getfield 152, 3) := by decide +kernel
theorem dX7_put_15 : decode cX7_put 15 = .ok (.iload_n 3, 1) := by decide +kernel
theorem dX7_put_16 : decode cX7_put 16 = .ok (.iadd, 1) := by decide +kernel
theorem dX7_put_17 : decode cX7_put 17 = .ok (.bipush 80, 2) := by decide +kernel
theorem dX7_put_19 : decode cX7_put 19 = .ok (.if_icmp .le 6, 3) := by decide +kernel
theorem dX7_put_22 : decode cX7_put 22 = .ok (.bipush (-4), 2) := by decide +kernel
theorem dX7_put_24 : decode cX7_put 24 = .ok (.ireturn, 1) := by decide +kernel
theorem dX7_put_25 : decode cX7_put 25 = .ok (.iload_n 3, 1) := by decide +kernel
theorem dX7_put_26 : decode cX7_put 26 = .ok (.iconst 1, 1) := by decide +kernel
theorem dX7_put_27 : decode cX7_put 27 = .ok (.isub, 1) := by decide +kernel
theorem dX7_put_28 : decode cX7_put 28 = .ok (.istore 4, 2) := by decide +kernel
theorem dX7_put_30 : decode cX7_put 30 = .ok (.iload 4, 2) := by decide +kernel
theorem dX7_put_32 : decode cX7_put 32 = .ok (.ifCond .lt 34, 3) := by decide +kernel
theorem dX7_put_35 : decode cX7_put 35 = .ok (.aload_n 0, 1) := by decide +kernel
theorem dX7_put_36 : decode cX7_put 36 = .ok (.getfield 23, 3) := by decide +kernel
theorem dX7_put_39 : decode cX7_put 39 = .ok (.aload_n 0, 1) := by decide +kernel
theorem dX7_put_40 : decode cX7_put 40 = .ok (.getfield 152, 3) := by decide +kernel
theorem dX7_put_43 : decode cX7_put 43 = .ok (.lload_n 1, 1) := by decide +kernel
theorem dX7_put_44 : decode cX7_put 44 = .ok (.iload 4, 2) := by decide +kernel
theorem dX7_put_46 : decode cX7_put 46 = .ok (.invokestatic 157, 3) := by decide +kernel
theorem dX7_put_49 : decode cX7_put 49 = .ok (.iastore, 1) := by decide +kernel
theorem dX7_put_50 : decode cX7_put 50 = .ok (.aload_n 0, 1) := by decide +kernel
theorem dX7_put_51 : decode cX7_put 51 = .ok (.dup, 1) := by decide +kernel
theorem dX7_put_52 : decode cX7_put 52 = .ok (.getfield 152, 3) := by decide +kernel
theorem dX7_put_55 : decode cX7_put 55 = .ok (.iconst 1, 1) := by decide +kernel
theorem dX7_put_56 : decode cX7_put 56 = .ok (.iadd, 1) := by decide +kernel
theorem dX7_put_57 : decode cX7_put 57 = .ok (.putfield 152, 3) := by decide +kernel
theorem dX7_put_60 : decode cX7_put 60 = .ok (.iinc 4 (-1), 3) := by decide +kernel
theorem dX7_put_63 : decode cX7_put 63 = .ok (.goto (-33), 3) := by decide +kernel
theorem dX7_put_66 : decode cX7_put 66 = .ok (.aload_n 0, 1) := by decide +kernel
theorem dX7_put_67 : decode cX7_put 67 = .ok (.getfield 152, 3) := by decide +kernel
theorem dX7_put_70 : decode cX7_put 70 = .ok (.ireturn, 1) := by decide +kernel
theorem dX7_wipe_0 : decode cX7_wipe 0 = .ok (.aload_n 0, 1) := by decide +kernel
theorem dX7_wipe_1 : decode cX7_wipe 1 = .ok (.getfield 152, 3) := by decide +kernel
theorem dX7_wipe_4 : decode cX7_wipe 4 = .ok (.istore_n 1, 1) := by decide +kernel
theorem dX7_wipe_5 : decode cX7_wipe 5 = .ok (.aload_n 0, 1) := by decide +kernel
theorem dX7_wipe_6 : decode cX7_wipe 6 = .ok (.iconst 0, 1) := by decide +kernel
theorem dX7_wipe_7 : decode cX7_wipe 7 = .ok (.putfield 152, 3) := by decide +kernel
theorem dX7_wipe_10 : decode cX7_wipe 10 = .ok (.iload_n 1, 1) := by decide +kernel
theorem dX7_wipe_11 : decode cX7_wipe 11 = .ok (.ireturn, 1) := by decide +kernel
set_option maxRecDepth 20000 in
theorem ggX7_isAt_X7_in : GoodIn wsX7_isAt wsX7_in := goodIn_r _ [7] (by decide +kernel) (by decide +kernel)
set_option maxRecDepth 20000 in
theorem gX7_isAt_X7_in : GoodIn wsX7_isAt (va_wsS RX7 35 yX7_in wsX7_in) := goodIn_app (goodIn_of _ (by decide +kernel)) ggX7_isAt_X7_in
theorem dX7_isAt_0 : decode cX7_isAt 0 = .ok (.aload_n 0, 1) := by decide +kernel
theorem dX7_isAt_1 : decode cX7_isAt 1 = .ok (.getfield 165, 3) := by decide +kernel
theorem dX7_isAt_4 : decode cX7_isAt 4 = .ok (.aload_n 0, 1) := by decide +kernel
theorem dX7_isAt_5 : decode cX7_isAt 5 = .ok (.getfield 152, 3) := by decide +kernel
theorem dX7_isAt_8 : decode cX7_isAt 8 = .ok (.if_icmp .ge 24, 3) := by decide +kernel
theorem dX7_isAt_11 : decode cX7_isAt 11 = .ok (.aload_n 0, 1) := by decide +kernel
theorem dX7_isAt_12 : decode cX7_isAt 12 = .ok (.getfield 23, 3) := by decide +kernel
theorem dX7_isAt_15 : decode cX7_isAt 15 = .ok (.aload_n 0, 1) := by decide +kernel
theorem dX7_isAt_16 : decode cX7_isAt 16 = .ok (.getfield 165, 3) := by decide +kernel
theorem dX7_isAt_19 : decode cX7_isAt 19 = .ok (.iaload, 1) := by decide +kernel
theorem dX7_isAt_20 : decode cX7_isAt 20 = .ok (.iload_n 1, 1) := by decide +kernel
theorem dX7_isAt_21 : decode cX7_isAt 21 = .ok (.iload_n 2, 1) := by decide +kernel
theorem dX7_isAt_22 : decode cX7_isAt 22 = .ok (.invokestatic 35, 3) := by decide +kernel
theorem dX7_isAt_25 : decode cX7_isAt 25 = .ok (.ifCond .eq 7, 3) := by decide +kernel
theorem dX7_isAt_28 : decode cX7_isAt 28 = .ok (.iconst 1, 1) := by decide +kernel
theorem dX7_isAt_29 : decode cX7_isAt 29 = .ok (.goto 4, 3) := by decide +kernel
theorem dX7_isAt_32 : decode cX7_isAt 32 = .ok (.iconst 0, 1) := by decide +kernel
theorem dX7_isAt_33 : decode cX7_isAt 33 = .ok (.ireturn, 1) := by decide +kernel
set_option maxRecDepth 20000 in
theorem ggX7_isSign_X7_isAt : GoodIn wsX7_isSign wsX7_isAt := goodIn_r _ [6, 1, 7, 8, 9, 10, 5, 11, 12, 13, 14, 15, 16, 17, 18, 19, 20, 21, 22, 23, 24, 25, 26, 27, 28, 29] (by decide +kernel) (by decide +kernel)
set_option maxRecDepth 20000 in
theorem gX7_isSign_X7_isAt : GoodIn wsX7_isSign (wsV RX7 168 RX7 yX7_isAt wsX7_isAt) := goodIn_app (goodIn_of _ (by decide +kernel)) ggX7_isSign_X7_isAt
theorem dX7_isSign_0 : decode cX7_isSign 0 = .ok (.aload_n 0, 1) := by decide +kernel
theorem dX7_isSign_1 : decode cX7_isSign 1 = .ok (.iload_n 1, 1) := by decide +kernel
theorem dX7_isSign_2 : decode cX7_isSign 2 = .ok (.iload_n 1, 1) := by decide +kernel
theorem dX7_isSign_3 : decode cX7_isSign 3 = .ok (.invokevirtual 168, 3) := by decide +kernel
theorem dX7_isSign_6 : decode cX7_isSign 6 = .ok (.istore_n 2, 1) := by decide +kernel
theorem dX7_isSign_7 : decode cX7_isSign 7 = .ok (.aload_n 0, 1) := by decide +kernel
theorem dX7_isSign_8 : decode cX7_isSign 8 = .ok (.dup, 1) := by decide +kernel
theorem dX7_isSign_9 : decode cX7_isSign 9 = .ok (.getfield 165, 3) := by decide +kernel
theorem dX7_isSign_12 : decode cX7_isSign 12 = .ok (.iload_n 2, 1) := by decide +kernel
theorem dX7_isSign_13 : decode cX7_isSign 13 = .ok (.ifCond .eq 7, 3) := by decide +kernel
theorem dX7_isSign_16 : decode cX7_isSign 16 = .ok (.iconst 1, 1) := by decide +kernel
theorem dX7_isSign_17 : decode cX7_isSign 17 = .ok (.goto 4, 3) := by decide +kernel
theorem dX7_isSign_20 : decode cX7_isSign 20 = .ok (.iconst 0, 1) := by decide +kernel
theorem dX7_isSign_21 : decode cX7_isSign 21 = .ok (.iadd, 1) := by decide +kernel
theorem dX7_isSign_22 : decode cX7_isSign 22 = .ok (.putfield 165, 3) := by decide +kernel
theorem dX7_isSign_25 : decode cX7_isSign 25 = .ok (.iload_n 2, 1) := by decide +kernel
theorem dX7_isSign_26 : decode cX7_isSign 26 = .ok (.ireturn, 1) := by decide +kernel
set_option maxRecDepth 20000 in
theorem ggX7_isNumber_X7_isAt : GoodIn wsX7_isNumber wsX7_isAt := goodIn_r _ [9, 2, 10, 1, 11, 12, 8, 13, 14, 15, 16, 17, 18, 19, 20, 21, 22, 23, 24, 25, 26, 27, 28, 29, 30, 31] (by decide +kernel) (by decide +kernel)
set_option maxRecDepth 20000 in
theorem gX7_isNumber_X7_isAt : GoodIn wsX7_isNumber (wsV RX7 168 RX7 yX7_isAt wsX7_isAt) := goodIn_app (goodIn_of _ (by decide +kernel)) ggX7_isNumber_X7_isAt
theorem dX7_isNumber_0 : decode cX7_isNumber 0 = .ok (.aload_n 0, 1) := by decide +kernel
theorem dX7_isNumber_1 : decode cX7_isNumber 1 = .ok (.bipush 48, 2) := by decide +kernel
theorem dX7_isNumber_3 : decode cX7_isNumber 3 = .ok (.bipush 57, 2) := by decide +kernel
theorem dX7_isNumber_5 : decode cX7_isNumber 5 = .ok (.invokevirtual 168, 3) := by decide +kernel
theorem dX7_isNumber_8 : decode cX7_isNumber 8 = .ok (.ifCond .ne 5, 3) := by decide +kernel
theorem dX7_isNumber_11 : decode cX7_isNumber 11 = .ok (.iconst 0, 1) := by decide +kernel
theorem dX7_isNumber_12 : decode cX7_isNumber 12 = .ok (.ireturn, 1) := by decide +kernel
theorem dX7_isNumber_13 : decode cX7_isNumber 13 = .ok (.aload_n 0, 1) := by decide +kernel
theorem dX7_isNumber_14 : decode cX7_isNumber 14 = .ok (.getfield 23, 3) := by decide +kernel
theorem dX7_isNumber_17 : decode cX7_isNumber 17 = .ok (.aload_n 0, 1) := by decide +kernel
theorem dX7_isNumber_18 : decode cX7_isNumber 18 = .ok (.getfield 165, 3) := by decide +kernel
theorem dX7_isNumber_21 : decode cX7_isNumber 21 = .ok (.iaload, 1) := by decide +kernel
theorem dX7_isNumber_22 : decode cX7_isNumber 22 = .ok (.bipush 48, 2) := by decide +kernel
theorem dX7_isNumber_24 : decode cX7_isNumber 24 = .ok (.isub, 1) := by decide +kernel
theorem dX7_isNumber_25 : decode cX7_isNumber 25 = .ok (.istore_n 2, 1) := by decide +kernel
theorem dX7_isNumber_26 : decode cX7_isNumber 26 = .ok (.aload_n 0, 1) := by decide +kernel
theorem dX7_isNumber_27 : decode cX7_isNumber 27 = .ok (.dup, 1) := by decide +kernel
theorem dX7_isNumber_28 : decode cX7_isNumber 28 = .ok (.getfield 165, 3) := by decide +kernel
theorem dX7_isNumber_31 : decode cX7_isNumber 31 = .ok (.iconst 1, 1) := by decide +kernel
theorem dX7_isNumber_32 : decode cX7_isNumber 32 = .ok (.iadd, 1) := by decide +kernel
theorem dX7_isNumber_33 : decode cX7_isNumber 33 = .ok (.putfield 165, 3) := by decide +kernel
theorem dX7_isNumber_36 : decode cX7_isNumber 36 = .ok (.iload_n 2, 1) := by decide +kernel
theorem dX7_isNumber_37 : decode cX7_isNumber 37 = .ok (.ifCond .le 51, 3) := by decide +kernel
theorem dX7_isNumber_40 : decode cX7_isNumber 40 = .ok (.iload_n 2, 1) := by decide +kernel
theorem dX7_isNumber_41 : decode cX7_isNumber 41 = .ok (.bipush 100, 2) := by decide +kernel
theorem dX7_isNumber_43 : decode cX7_isNumber 43 = .ok (.if_icmp .ge 45, 3) := by decide +kernel
theorem dX7_isNumber_46 : decode cX7_isNumber 46 = .ok (.aload_n 0, 1) := by decide +kernel
theorem dX7_isNumber_47 : decode cX7_isNumber 47 = .ok (.bipush 48, 2) := by decide +kernel
theorem dX7_isNumber_49 : decode cX7_isNumber 49 = .ok (.bipush 57, 2) := by decide +kernel
theorem dX7_isNumber_51 : decode cX7_isNumber 51 = .ok (.invokevirtual 168, 3) := by decide +kernel
theorem dX7_isNumber_54 : decode cX7_isNumber 54 = .ok (.ifCond .eq 34, 3) := by decide +kernel
theorem dX7_isNumber_57 : decode cX7_isNumber 57 = .ok (.bipush 10, 2) := by decide +kernel
theorem dX7_isNumber_59 : decode cX7_isNumber 59 = .ok (.iload_n 2, 1) := by decide +kernel
theorem dX7_isNumber_60 : decode cX7_isNumber 60 = .ok (.imul, 1) := by decide +kernel
theorem dX7_isNumber_61 : decode cX7_isNumber 61 = .ok (.aload_n 0, 1) := by decide +kernel
theorem dX7_isNumber_62 : decode cX7_isNumber 62 = .ok (.getfield 23, 3) := by decide +kernel
theorem dX7_isNumber_65 : decode cX7_isNumber 65 = .ok (.aload_n 0, 1) := by decide +kernel
theorem dX7_isNumber_66 : decode cX7_isNumber 66 = .ok (.getfield 165, 3) := by decide +kernel
theorem dX7_isNumber_69 : decode cX7_isNumber 69 = .ok (.iaload, 1) := by decide +kernel
theorem dX7_isNumber_70 : decode cX7_isNumber 70 = .ok (.iadd, 1) := by decide +kernel
theorem dX7_isNumber_71 : decode cX7_isNumber 71 = .ok (.bipush 48, 2) := by decide +kernel
theorem dX7_isNumber_73 : decode cX7_isNumber 73 = .ok (.isub, 1) := by decide +kernel
theorem dX7_isNumber_74 : decode cX7_isNumber 74 = .ok (.istore_n 2, 1) := by decide +kernel
theorem dX7_isNumber_75 : decode cX7_isNumber 75 = .ok (.aload_n 0, 1) := by decide +kernel
theorem dX7_isNumber_76 : decode cX7_isNumber 76 = .ok (.dup, 1) := by decide +kernel
theorem dX7_isNumber_77 : decode cX7_isNumber 77 = .ok (.getfield 165, 3) := by decide +kernel
theorem dX7_isNumber_80 : decode cX7_isNumber 80 = .ok (.iconst 1, 1) := by decide +kernel
theorem dX7_isNumber_81 : decode cX7_isNumber 81 = .ok (.iadd, 1) := by decide +kernel
theorem dX7_isNumber_82 : decode cX7_isNumber 82 = .ok (.putfield 165, 3) := by decide +kernel
theorem dX7_isNumber_85 : decode cX7_isNumber 85 = .ok (.goto (-49), 3) := by decide +kernel
theorem dX7_isNumber_88 : decode cX7_isNumber 88 = .ok (.aload_n 0, 1) := by decide +kernel
theorem dX7_isNumber_89 : decode cX7_isNumber 89 = .ok (.getfield 26, 3) := by decide +kernel
theorem dX7_isNumber_92 : decode cX7_isNumber 92 = .ok (.iconst 5, 1) := by decide +kernel
theorem dX7_isNumber_93 : decode cX7_isNumber 93 = .ok (.aload_n 0, 1) := by decide +kernel
theorem dX7_isNumber_94 : decode cX7_isNumber 94 = .ok (.getfield 171, 3) := by decide +kernel
theorem dX7_isNumber_97 : decode cX7_isNumber 97 = .ok (.imul, 1) := by decide +kernel
theorem dX7_isNumber_98 : decode cX7_isNumber 98 = .ok (.iload_n 1, 1) := by decide +kernel
theorem dX7_isNumber_99 : decode cX7_isNumber 99 = .ok (.iadd, 1) := by decide +kernel
theorem dX7_isNumber_100 : decode cX7_isNumber 100 = .ok (.iload_n 2, 1) := by decide +kernel
theorem dX7_isNumber_101 : decode cX7_isNumber 101 = .ok (.iastore, 1) := by decide +kernel
theorem dX7_isNumber_102 : decode cX7_isNumber 102 = .ok (.iconst 1, 1) := by decide +kernel
theorem dX7_isNumber_103 : decode cX7_isNumber 103 = .ok (.ireturn, 1) := by decide +kernel
set_option maxRecDepth 20000 in
theorem ggX7_isSpan_X7_isNumber : GoodIn wsX7_isSpan wsX7_isNumber := goodIn_r _ [7, 8, 9, 1, 2, 10, 11, 12, 6, 13, 14, 15, 16, 17, 22, 23, 24, 25, 26, 27, 28, 29, 30, 31, 32, 33, 34, 35, 36, 37, 38, 39] (by decide +kernel) (by decide +kernel)
set_option maxRecDepth 20000 in
theorem gX7_isSpan_X7_isNumber : GoodIn wsX7_isSpan (wsV RX7 174 RX7 yX7_isNumber wsX7_isNumber) := goodIn_app (goodIn_of _ (by decide +kernel)) ggX7_isSpan_X7_isNumber
set_option maxRecDepth 20000 in
theorem ggX7_isSpan_X7_isSign : GoodIn wsX7_isSpan wsX7_isSign := goodIn_r _ [21, 9, 10, 11, 12, 6, 13, 14, 8, 15, 16, 17, 22, 23, 24, 25, 26, 27, 28, 29, 30, 31, 32, 33, 34, 35, 36, 37, 38, 39] (by decide +kernel) (by decide +kernel)
set_option maxRecDepth 20000 in
theorem gX7_isSpan_X7_isSign : GoodIn wsX7_isSpan (wsV RX7 177 RX7 yX7_isSign wsX7_isSign) := goodIn_app (goodIn_of _ (by decide +kernel)) ggX7_isSpan_X7_isSign
theorem dX7_isSpan_0 : decode cX7_isSpan 0 = .ok (.aload_n 0, 1) := by decide +kernel
theorem dX7_isSpan_1 : decode cX7_isSpan 1 = .ok (.iconst 1, 1) := by decide +kernel
theorem dX7_isSpan_2 : decode cX7_isSpan 2 = .ok (.invokevirtual 174, 3) := by decide +kernel
theorem dX7_isSpan_5 : decode cX7_isSpan 5 = .ok (.ifCond .ne 5, 3) := by decide +kernel
theorem dX7_isSpan_8 : decode cX7_isSpan 8 = .ok (.iconst 0, 1) := by decide +kernel
theorem dX7_isSpan_9 : decode cX7_isSpan 9 = .ok (.ireturn, 1) := by decide +kernel
theorem dX7_isSpan_10 : decode cX7_isSpan 10 = .ok (.aload_n 0, 1) := by decide +kernel
theorem dX7_isSpan_11 : decode cX7_isSpan 11 = .ok (.getfield 26, 3) := by decide +kernel
theorem dX7_isSpan_14 : decode cX7_isSpan 14 = .ok (.iconst 5, 1) := by decide +kernel
theorem dX7_isSpan_15 : decode cX7_isSpan 15 = .ok (.aload_n 0, 1) := by decide +kernel
theorem dX7_isSpan_16 : decode cX7_isSpan 16 = .ok (.getfield 171, 3) := by decide +kernel
theorem dX7_isSpan_19 : decode cX7_isSpan 19 = .ok (.imul, 1) := by decide +kernel
theorem dX7_isSpan_20 : decode cX7_isSpan 20 = .ok (.iconst 2, 1) := by decide +kernel
theorem dX7_isSpan_21 : decode cX7_isSpan 21 = .ok (.iadd, 1) := by decide +kernel
theorem dX7_isSpan_22 : decode cX7_isSpan 22 = .ok (.aload_n 0, 1) := by decide +kernel
theorem dX7_isSpan_23 : decode cX7_isSpan 23 = .ok (.getfield 26, 3) := by decide +kernel
theorem dX7_isSpan_26 : decode cX7_isSpan 26 = .ok (.iconst 5, 1) := by decide +kernel
theorem dX7_isSpan_27 : decode cX7_isSpan 27 = .ok (.aload_n 0, 1) := by decide +kernel
theorem dX7_isSpan_28 : decode cX7_isSpan 28 = .ok (.getfield 171, 3) := by decide +kernel
theorem dX7_isSpan_31 : decode cX7_isSpan 31 = .ok (.imul, 1) := by decide +kernel
theorem dX7_isSpan_32 : decode cX7_isSpan 32 = .ok (.iconst 1, 1) := by decide +kernel
theorem dX7_isSpan_33 : decode cX7_isSpan 33 = .ok (.iadd, 1) := by decide +kernel
theorem dX7_isSpan_34 : decode cX7_isSpan 34 = .ok (.iaload, 1) := by decide +kernel
theorem dX7_isSpan_35 : decode cX7_isSpan 35 = .ok (.iastore, 1) := by decide +kernel
theorem dX7_isSpan_36 : decode cX7_isSpan 36 = .ok (.aload_n 0, 1) := by decide +kernel
theorem dX7_isSpan_37 : decode cX7_isSpan 37 = .ok (.bipush 45, 2) := by decide +kernel
theorem dX7_isSpan_39 : decode cX7_isSpan 39 = .ok (.invokevirtual 177, 3) := by decide +kernel
theorem dX7_isSpan_42 : decode cX7_isSpan 42 = .ok (.ifCond .eq 13, 3) := by decide +kernel
theorem dX7_isSpan_45 : decode cX7_isSpan 45 = .ok (.aload_n 0, 1) := by decide +kernel
theorem dX7_isSpan_46 : decode cX7_isSpan 46 = .ok (.iconst 2, 1) := by decide +kernel
theorem dX7_isSpan_47 : decode cX7_isSpan 47 = .ok (.invokevirtual 174, 3) := by decide +kernel
theorem dX7_isSpan_50 : decode cX7_isSpan 50 = .ok (.ifCond .ne 5, 3) := by decide +kernel
theorem dX7_isSpan_53 : decode cX7_isSpan 53 = .ok (.iconst 0, 1) := by decide +kernel
theorem dX7_isSpan_54 : decode cX7_isSpan 54 = .ok (.ireturn, 1) := by decide +kernel
theorem dX7_isSpan_55 : decode cX7_isSpan 55 = .ok (.aload_n 0, 1) := by decide +kernel
theorem dX7_isSpan_56 : decode cX7_isSpan 56 = .ok (.bipush 61, 2) := by decide +kernel
theorem dX7_isSpan_58 : decode cX7_isSpan 58 = .ok (.invokevirtual 177, 3) := by decide +kernel
theorem dX7_isSpan_61 : decode cX7_isSpan 61 = .ok (.ifCond .ne 5, 3) := by decide +kernel
theorem dX7_isSpan_64 : decode cX7_isSpan 64 = .ok (.iconst 0, 1) := by decide +kernel
theorem dX7_isSpan_65 : decode cX7_isSpan 65 = .ok (.ireturn, 1) := by decide +kernel
theorem dX7_isSpan_66 : decode cX7_isSpan 66 = .ok (.iload_n 1, 1) := by decide +kernel
theorem dX7_isSpan_67 : decode cX7_isSpan 67 = .ok (.ifCond .eq 16, 3) := by decide +kernel
theorem dX7_isSpan_70 : decode cX7_isSpan 70 = .ok (.aload_n 0, 1) := by decide +kernel
theorem dX7_isSpan_71 : decode cX7_isSpan 71 = .ok (.bipush 45, 2) := by decide +kernel
theorem dX7_isSpan_73 : decode cX7_isSpan 73 = .ok (.invokevirtual 177, 3) := by decide +kernel
theorem dX7_isSpan_76 : decode cX7_isSpan 76 = .ok (.ifCond .eq 7, 3) := by decide +kernel
theorem dX7_isSpan_79 : decode cX7_isSpan 79 = .ok (.iconst 1, 1) := by decide +kernel
theorem dX7_isSpan_80 : decode cX7_isSpan 80 = .ok (.goto 4, 3) := by decide +kernel
theorem dX7_isSpan_83 : decode cX7_isSpan 83 = .ok (.iconst 0, 1) := by decide +kernel
theorem dX7_isSpan_84 : decode cX7_isSpan 84 = .ok (.istore_n 2, 1) := by decide +kernel
theorem dX7_isSpan_85 : decode cX7_isSpan 85 = .ok (.aload_n 0, 1) := by decide +kernel
theorem dX7_isSpan_86 : decode cX7_isSpan 86 = .ok (.iconst 3, 1) := by decide +kernel
theorem dX7_isSpan_87 : decode cX7_isSpan 87 = .ok (.invokevirtual 174, 3) := by decide +kernel
theorem dX7_isSpan_90 : decode cX7_isSpan 90 = .ok (.istore_n 3, 1) := by decide +kernel
theorem dX7_isSpan_91 : decode cX7_isSpan 91 = .ok (.aload_n 0, 1) := by decide +kernel
theorem dX7_isSpan_92 : decode cX7_isSpan 92 = .ok (.getfield 26, 3) := by decide +kernel
theorem dX7_isSpan_95 : decode cX7_isSpan 95 = .ok (.iconst 5, 1) := by decide +kernel
theorem dX7_isSpan_96 : decode cX7_isSpan 96 = .ok (.aload_n 0, 1) := by decide +kernel
theorem dX7_isSpan_97 : decode cX7_isSpan 97 = .ok (.getfield 171, 3) := by decide +kernel
theorem dX7_isSpan_100 : decode cX7_isSpan 100 = .ok (.imul, 1) := by decide +kernel
theorem dX7_isSpan_101 : decode cX7_isSpan 101 = .ok (.iconst 3, 1) := by decide +kernel
theorem dX7_isSpan_102 : decode cX7_isSpan 102 = .ok (.iadd, 1) := by decide +kernel
theorem dX7_isSpan_103 : decode cX7_isSpan 103 = .ok (.dup2, 1) := by decide +kernel
theorem dX7_isSpan_104 : decode cX7_isSpan 104 = .ok (.iaload, 1) := by decide +kernel
theorem dX7_isSpan_105 : decode cX7_isSpan 105 = .ok (.iload_n 2, 1) := by decide +kernel
theorem dX7_isSpan_106 : decode cX7_isSpan 106 = .ok (.ifCond .eq 7, 3) := by decide +kernel
theorem dX7_isSpan_109 : decode cX7_isSpan 109 = .ok (.iconst (-1), 1) := by decide +kernel
theorem dX7_isSpan_110 : decode cX7_isSpan 110 = .ok (.goto 4, 3) := by decide +kernel
theorem dX7_isSpan_113 : decode cX7_isSpan 113 = .ok (.iconst 1, 1) := by decide +kernel
theorem dX7_isSpan_114 : decode cX7_isSpan 114 = .ok (.imul, 1) := by decide +kernel
theorem dX7_isSpan_115 : decode cX7_isSpan 115 = .ok (.iastore, 1) := by decide +kernel
theorem dX7_isSpan_116 : decode cX7_isSpan 116 = .ok (.iload_n 3, 1) := by decide +kernel
theorem dX7_isSpan_117 : decode cX7_isSpan 117 = .ok (.ireturn, 1) := by decide +kernel
set_option maxRecDepth 20000 in
theorem ggX7_isContract_X7_isNumber : GoodIn wsX7_isContract wsX7_isNumber := goodIn_r _ [5, 6, 7, 8, 9, 10, 11, 12, 4, 13, 14, 15, 16, 17, 22, 23, 24, 25, 26, 27, 28, 29, 30, 31, 32, 33, 34, 35, 36, 37, 38, 39] (by decide +kernel) (by decide +kernel)
set_option maxRecDepth 20000 in
theorem gX7_isContract_X7_isNumber : GoodIn wsX7_isContract (wsV RX7 174 RX7 yX7_isNumber wsX7_isNumber) := goodIn_app (goodIn_of _ (by decide +kernel)) ggX7_isContract_X7_isNumber
set_option maxRecDepth 20000 in
theorem ggX7_isContract_X7_isSign : GoodIn wsX7_isContract wsX7_isSign := goodIn_r _ [21, 7, 10, 11, 12, 4, 13, 14, 6, 15, 16, 17, 22, 23, 24, 25, 26, 27, 28, 29, 30, 31, 32, 33, 34, 35, 36, 37, 38, 39] (by decide +kernel) (by decide +kernel)
set_option maxRecDepth 20000 in
theorem gX7_isContract_X7_isSign : GoodIn wsX7_isContract (wsV RX7 177 RX7 yX7_isSign wsX7_isSign) := goodIn_app (goodIn_of _ (by decide +kernel)) ggX7_isContract_X7_isSign
theorem dX7_isContract_0 : decode cX7_isContract 0 = .ok (.aload_n 0, 1) := by decide +kernel
theorem dX7_isContract_1 : decode cX7_isContract 1 = .ok (.iconst 1, 1) := by decide +kernel
theorem dX7_isContract_2 : decode cX7_isContract 2 = .ok (.invokevirtual 174, 3) := by decide +kernel
theorem dX7_isContract_5 : decode cX7_isContract 5 = .ok (.ifCond .eq 58, 3) := by decide +kernel
theorem dX7_isContract_8 : decode cX7_isContract 8 = .ok (.aload_n 0, 1) := by decide +kernel
theorem dX7_isContract_9 : decode cX7_isContract 9 = .ok (.bipush 58, 2) := by decide +kernel
theorem dX7_isContract_11 : decode cX7_isContract 11 = .ok (.invokevirtual 177, 3) := by decide +kernel
theorem dX7_isContract_14 : decode cX7_isContract 14 = .ok (.ifCond .eq 49, 3) := by decide +kernel
theorem dX7_isContract_17 : decode cX7_isContract 17 = .ok (.aload_n 0, 1) := by decide +kernel
theorem dX7_isContract_18 : decode cX7_isContract 18 = .ok (.iconst 2, 1) := by decide +kernel
theorem dX7_isContract_19 : decode cX7_isContract 19 = .ok (.invokevirtual 174, 3) := by decide +kernel
theorem dX7_isContract_22 : decode cX7_isContract 22 = .ok (.ifCond .eq 41, 3) := by decide +kernel
theorem dX7_isContract_25 : decode cX7_isContract 25 = .ok (.aload_n 0, 1) := by decide +kernel
theorem dX7_isContract_26 : decode cX7_isContract 26 = .ok (.bipush 43, 2) := by decide +kernel
theorem dX7_isContract_28 : decode cX7_isContract 28 = .ok (.invokevirtual 177, 3) := by decide +kernel
theorem dX7_isContract_31 : decode cX7_isContract 31 = .ok (.ifCond .eq 32, 3) := by decide +kernel
theorem dX7_isContract_34 : decode cX7_isContract 34 = .ok (.aload_n 0, 1) := by decide +kernel
theorem dX7_isContract_35 : decode cX7_isContract 35 = .ok (.iconst 3, 1) := by decide +kernel
theorem dX7_isContract_36 : decode cX7_isContract 36 = .ok (.invokevirtual 174, 3) := by decide +kernel
theorem dX7_isContract_39 : decode cX7_isContract 39 = .ok (.ifCond .eq 24, 3) := by decide +kernel
theorem dX7_isContract_42 : decode cX7_isContract 42 = .ok (.aload_n 0, 1) := by decide +kernel
theorem dX7_isContract_43 : decode cX7_isContract 43 = .ok (.bipush 45, 2) := by decide +kernel
theorem dX7_isContract_45 : decode cX7_isContract 45 = .ok (.invokevirtual 177, 3) := by decide +kernel
theorem dX7_isContract_48 : decode cX7_isContract 48 = .ok (.ifCond .eq 15, 3) := by decide +kernel
theorem dX7_isContract_51 : decode cX7_isContract 51 = .ok (.aload_n 0, 1) := by decide +kernel
theorem dX7_isContract_52 : decode cX7_isContract 52 = .ok (.iconst 4, 1) := by decide +kernel
theorem dX7_isContract_53 : decode cX7_isContract 53 = .ok (.invokevirtual 174, 3) := by decide +kernel
theorem dX7_isContract_56 : decode cX7_isContract 56 = .ok (.ifCond .eq 7, 3) := by decide +kernel
theorem dX7_isContract_59 : decode cX7_isContract 59 = .ok (.iconst 1, 1) := by decide +kernel
theorem dX7_isContract_60 : decode cX7_isContract 60 = .ok (.goto 4, 3) := by decide +kernel
theorem dX7_isContract_63 : decode cX7_isContract 63 = .ok (.iconst 0, 1) := by decide +kernel
theorem dX7_isContract_64 : decode cX7_isContract 64 = .ok (.ireturn, 1) := by decide +kernel
set_option maxRecDepth 20000 in
theorem ggX7_isOrder_X7_isSpan : GoodIn wsX7_isOrder wsX7_isSpan := goodIn_r _ [10, 4, 5, 11, 12, 13, 9, 14, 3, 1, 15, 16, 17, 18, 2, 19, 20, 21, 22, 23, 24, 25, 30, 31, 32, 33, 34, 35, 36, 37, 38, 39, 40, 41, 42, 43, 44, 45, 46, 47] (by decide +kernel) (by decide +kernel)
set_option maxRecDepth 20000 in
theorem gX7_isOrder_X7_isSpan : GoodIn wsX7_isOrder (wsV RX7 180 RX7 yX7_isSpan wsX7_isSpan) := goodIn_app (goodIn_of _ (by decide +kernel)) ggX7_isOrder_X7_isSpan
set_option maxRecDepth 20000 in
theorem ggX7_isOrder_X7_isContract : GoodIn wsX7_isOrder wsX7_isContract := goodIn_r _ [29, 11, 12, 13, 9, 14, 3, 1, 4, 5, 15, 16, 17, 18, 2, 19, 20, 21, 22, 23, 24, 25, 30, 31, 32, 33, 34, 35, 36, 37, 38, 39, 40, 41, 42, 43, 44, 45, 46, 47] (by decide +kernel) (by decide +kernel)
set_option maxRecDepth 20000 in
theorem gX7_isOrder_X7_isContract : GoodIn wsX7_isOrder (wsV RX7 184 RX7 yX7_isContract wsX7_isContract) := goodIn_app (goodIn_of _ (by decide +kernel)) ggX7_isOrder_X7_isContract
theorem dX7_isOrder_0 : decode cX7_isOrder 0 = .ok (.aload_n 0, 1) := by decide +kernel
