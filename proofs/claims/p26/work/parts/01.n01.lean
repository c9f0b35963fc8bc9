theorem dX0_init_0 : decode cX0_init 0 = .ok (.aload_n 0, 1) := by decide +kernel
theorem dX0_init_1 : decode cX0_init 1 = .ok (.invokespecial 3, 3) := by decide +kernel
theorem dX0_init_4 : decode cX0_init 4 = .ok (.aload_n 0, 1) := by decide +kernel
theorem dX0_init_5 : decode cX0_init 5 = .ok (.bipush 24, 2) := by decide +kernel
theorem dX0_init_7 : decode cX0_init 7 = .ok (.newarray .int, 2) := by decide +kernel
theorem dX0_init_9 : decode cX0_init 9 = .ok (.putfield 9, 3) := by decide +kernel
theorem dX0_init_12 : decode cX0_init 12 = .ok (.aload_n 0, 1) := by decide +kernel
theorem dX0_init_13 : decode cX0_init 13 = .ok (.bipush 24, 2) := by decide +kernel
theorem dX0_init_15 : decode cX0_init 15 = .ok (.newarray .int, 2) := by decide +kernel
theorem dX0_init_17 : decode cX0_init 17 = .ok (.putfield 15, 3) := by decide +kernel
theorem dX0_init_20 : decode cX0_init 20 = .ok (.aload_n 0, 1) := by decide +kernel
theorem dX0_init_21 : decode cX0_init 21 = .ok (.bipush 24, 2) := by decide +kernel
theorem dX0_init_23 : decode cX0_init 23 = .ok (.newarray .int, 2) := by decide +kernel
theorem dX0_init_25 : decode cX0_init 25 = .ok (.putfield 18, 3) := by decide +kernel
theorem dX0_init_28 : decode cX0_init 28 = .ok (.aload_n 0, 1) := by decide +kernel
theorem dX0_init_29 : decode cX0_init 29 = .ok (.bipush 24, 2) := by decide +kernel
theorem dX0_init_31 : decode cX0_init 31 = .ok (.newarray .int, 2) := by decide +kernel
theorem dX0_init_33 : decode cX0_init 33 = .ok (.putfield 21, 3) := by decide +kernel
theorem dX0_init_36 : decode cX0_init 36 = .ok (.aload_n 0, 1) := by decide +kernel
theorem dX0_init_37 : decode cX0_init 37 = .ok (.bipush 24, 2) := by decide +kernel
theorem dX0_init_39 : decode cX0_init 39 = .ok (.newarray .int, 2) := by decide +kernel
theorem dX0_init_41 : decode cX0_init 41 = .ok (.putfield 24, 3) := by decide +kernel
theorem dX0_init_44 : decode cX0_init 44 = .ok (.aload_n 0, 1) := by decide +kernel
theorem dX0_init_45 : decode cX0_init 45 = .ok (.bipush 24, 2) := by decide +kernel
theorem dX0_init_47 : decode cX0_init 47 = .ok (.newarray .int, 2) := by decide +kernel
theorem dX0_init_49 : decode cX0_init 49 = .ok (.putfield 27, 3) := by decide +kernel
theorem dX0_init_52 : decode cX0_init 52 = .ok (.aload_n 0, 1) := by decide +kernel
theorem dX0_init_53 : decode cX0_init 53 = .ok (.bipush 24, 2) := by decide +kernel
theorem dX0_init_55 : decode cX0_init 55 = .ok (.newarray .int, 2) := by decide +kernel
theorem dX0_init_57 : decode cX0_init 57 = .ok (.putfield 30, 3) := by decide +kernel
theorem dX0_init_60 : decode cX0_init 60 = .ok (.aload_n 0, 1) := by decide +kernel
theorem dX0_init_61 : decode cX0_init 61 = .ok (.bipush 24, 2) := by decide +kernel
theorem dX0_init_63 : decode cX0_init 63 = .ok (.newarray .int, 2) := by decide +kernel
theorem dX0_init_65 : decode cX0_init 65 = .ok (.putfield 33, 3) := by decide +kernel
theorem dX0_init_68 : decode cX0_init 68 = .ok (.aload_n 0, 1) := by decide +kernel
theorem dX0_init_69 : decode cX0_init 69 = .ok (.aload_n 1, 1) := by decide +kernel
theorem dX0_init_70 : decode cX0_init 70 = .ok (.putfield 36, 3) := by decide +kernel
theorem dX0_init_73 : decode cX0_init 73 = .ok (.return_, 1) := by decide +kernel
theorem dX0_follow_0 : decode cX0_follow 0 = .ok (.aload_n 0, 1) := by decide +kernel
theorem dX0_follow_1 : decode cX0_follow 1 = .ok (.getfield 36, 3) := by decide +kernel
theorem dX0_follow_4 : decode cX0_follow 4 = .ok (.bipush 7, 2) := by decide +kernel
theorem dX0_follow_6 : decode cX0_follow 6 = .ok (.invokevirtual 40, 3) := by decide +kernel
theorem dX0_follow_9 : decode cX0_follow 9 = .ok (.istore_n 1, 1) := by decide +kernel
theorem dX0_follow_10 : decode cX0_follow 10 = .ok (.bipush (-6), 2) := by decide +kernel
theorem dX0_follow_12 : decode cX0_follow 12 = .ok (.istore_n 2, 1) := by decide +kernel
theorem dX0_follow_13 : decode cX0_follow 13 = .ok (.iconst 0, 1) := by decide +kernel
theorem dX0_follow_14 : decode cX0_follow 14 = .ok (.istore_n 3, 1) := by decide +kernel
theorem dX0_follow_15 : decode cX0_follow 15 = .ok (.iload_n 3, 1) := by decide +kernel
theorem dX0_follow_16 : decode cX0_follow 16 = .ok (.bipush 24, 2) := by decide +kernel
theorem dX0_follow_18 : decode cX0_follow 18 = .ok (.if_icmp .ge 81, 3) := by decide +kernel
theorem dX0_follow_21 : decode cX0_follow 21 = .ok (.aload_n 0, 1) := by decide +kernel
theorem dX0_follow_22 : decode cX0_follow 22 = .ok (.iload_n 3, 1) := by decide +kernel
theorem dX0_follow_23 : decode cX0_follow 23 = .ok (.iload_n 1, 1) := by decide +kernel
theorem dX0_follow_24 : decode cX0_follow 24 = .ok (.invokevirtual 46, 3) := by decide +kernel
theorem dX0_follow_27 : decode cX0_follow 27 = .ok (.istore_n 1, 1) := by decide +kernel
theorem dX0_follow_28 : decode cX0_follow 28 = .ok (.aload_n 0, 1) := by decide +kernel
theorem dX0_follow_29 : decode cX0_follow 29 = .ok (.getfield 30, 3) := by decide +kernel
theorem dX0_follow_32 : decode cX0_follow 32 = .ok (.iload_n 3, 1) := by decide +kernel
theorem dX0_follow_33 : decode cX0_follow 33 = .ok (.iaload, 1) := by decide +kernel
theorem dX0_follow_34 : decode cX0_follow 34 = .ok (.iconst 1, 1) := by decide +kernel
theorem dX0_follow_35 : decode cX0_follow 35 = .ok (.if_icmp .eq 23, 3) := by decide +kernel
theorem dX0_follow_38 : decode cX0_follow 38 = .ok (.aload_n 0, 1) := by decide +kernel
theorem dX0_follow_39 : decode cX0_follow 39 = .ok (.getfield 30, 3) := by decide +kernel
theorem dX0_follow_42 : decode cX0_follow 42 = .ok (.iload_n 3, 1) := by decide +kernel
theorem dX0_follow_43 : decode cX0_follow 43 = .ok (.iaload, 1) := by decide +kernel
theorem dX0_follow_44 : decode cX0_follow 44 = .ok (.iconst 2, 1) := by decide +kernel
theorem dX0_follow_45 : decode cX0_follow 45 = .ok (.if_icmp .eq 13, 3) := by decide +kernel
theorem dX0_follow_48 : decode cX0_follow 48 = .ok (.aload_n 0, 1) := by decide +kernel
theorem dX0_follow_49 : decode cX0_follow 49 = .ok (.getfield 30, 3) := by decide +kernel
theorem dX0_follow_52 : decode cX0_follow 52 = .ok (.iload_n 3, 1) := by decide +kernel
theorem dX0_follow_53 : decode cX0_follow 53 = .ok (.iaload, 1) := by decide +kernel
theorem dX0_follow_54 : decode cX0_follow 54 = .ok (.iconst 3, 1) := by decide +kernel
theorem dX0_follow_55 : decode cX0_follow 55 = .ok (.if_icmp .ne 7, 3) := by decide +kernel
theorem dX0_follow_58 : decode cX0_follow 58 = .ok (.iconst 1, 1) := by decide +kernel
theorem dX0_follow_59 : decode cX0_follow 59 = .ok (.goto 4, 3) := by decide +kernel
theorem dX0_follow_62 : decode cX0_follow 62 = .ok (.iconst 0, 1) := by decide +kernel
theorem dX0_follow_63 : decode cX0_follow 63 = .ok (.istore 4, 2) := by decide +kernel
theorem dX0_follow_65 : decode cX0_follow 65 = .ok (.aload_n 0, 1) := by decide +kernel
theorem dX0_follow_66 : decode cX0_follow 66 = .ok (.getfield 33, 3) := by decide +kernel
theorem dX0_follow_69 : decode cX0_follow 69 = .ok (.iload_n 3, 1) := by decide +kernel
theorem dX0_follow_70 : decode cX0_follow 70 = .ok (.iload 4, 2) := by decide +kernel
theorem dX0_follow_72 : decode cX0_follow 72 = .ok (.ifCond .eq 7, 3) := by decide +kernel
theorem dX0_follow_75 : decode cX0_follow 75 = .ok (.iload_n 2, 1) := by decide +kernel
theorem dX0_follow_76 : decode cX0_follow 76 = .ok (.goto 5, 3) := by decide +kernel
theorem dX0_follow_79 : decode cX0_follow 79 = .ok (.bipush (-6), 2) := by decide +kernel
theorem dX0_follow_81 : decode cX0_follow 81 = .ok (.iastore, 1) := by decide +kernel
theorem dX0_follow_82 : decode cX0_follow 82 = .ok (.aload_n 0, 1) := by decide +kernel
theorem dX0_follow_83 : decode cX0_follow 83 = .ok (.getfield 21, 3) := by decide +kernel
theorem dX0_follow_86 : decode cX0_follow 86 = .ok (.iload_n 3, 1) := by decide +kernel
theorem dX0_follow_87 : decode cX0_follow 87 = .ok (.iaload, 1) := by decide +kernel
theorem dX0_follow_88 : decode cX0_follow 88 = .ok (.ifCond .le 5, 3) := by decide +kernel
theorem dX0_follow_91 : decode cX0_follow 91 = .ok (.iload_n 3, 1) := by decide +kernel
theorem dX0_follow_92 : decode cX0_follow 92 = .ok (.istore_n 2, 1) := by decide +kernel
theorem dX0_follow_93 : decode cX0_follow 93 = .ok (.iinc 3 1, 3) := by decide +kernel
theorem dX0_follow_96 : decode cX0_follow 96 = .ok (.goto (-81), 3) := by decide +kernel
theorem dX0_follow_99 : decode cX0_follow 99 = .ok (.return_, 1) := by decide +kernel
theorem dX0_followHour_0 : decode cX0_followHour 0 = .ok (.iload_n 1, 1) := by decide +kernel
theorem dX0_followHour_1 : decode cX0_followHour 1 = .ok (.invokestatic 50, 3) := by decide +kernel
theorem dX0_followHour_4 : decode cX0_followHour 4 = .ok (.ifCond .ne 5, 3) := by decide +kernel
theorem dX0_followHour_7 : decode cX0_followHour 7 = .ok (.iload_n 2, 1) := by decide +kernel
theorem dX0_followHour_8 : decode cX0_followHour 8 = .ok (.ireturn, 1) := by decide +kernel
theorem dX0_followHour_9 : decode cX0_followHour 9 = .ok (.aload_n 0, 1) := by decide +kernel
theorem dX0_followHour_10 : decode cX0_followHour 10 = .ok (.getfield 36, 3) := by decide +kernel
theorem dX0_followHour_13 : decode cX0_followHour 13 = .ok (.iload_n 1, 1) := by decide +kernel
theorem dX0_followHour_14 : decode cX0_followHour 14 = .ok (.invokevirtual 54, 3) := by decide +kernel
theorem dX0_followHour_17 : decode cX0_followHour 17 = .ok (.istore_n 3, 1) := by decide +kernel
theorem dX0_followHour_18 : decode cX0_followHour 18 = .ok (.iload_n 3, 1) := by decide +kernel
theorem dX0_followHour_19 : decode cX0_followHour 19 = .ok (.invokestatic 57, 3) := by decide +kernel
theorem dX0_followHour_22 : decode cX0_followHour 22 = .ok (.istore 4, 2) := by decide +kernel
theorem dX0_followHour_24 : decode cX0_followHour 24 = .ok (.aload_n 0, 1) := by decide +kernel
theorem dX0_followHour_25 : decode cX0_followHour 25 = .ok (.getfield 36, 3) := by decide +kernel
theorem dX0_followHour_28 : decode cX0_followHour 28 = .ok (.iload_n 1, 1) := by decide +kernel
theorem dX0_followHour_29 : decode cX0_followHour 29 = .ok (.iload_n 2, 1) := by decide +kernel
theorem dX0_followHour_30 : decode cX0_followHour 30 = .ok (.iload 4, 2) := by decide +kernel
theorem dX0_followHour_32 : decode cX0_followHour 32 = .ok (.invokevirtual 60, 3) := by decide +kernel
theorem dX0_followHour_35 : decode cX0_followHour 35 = .ok (.istore 5, 2) := by decide +kernel
theorem dX0_followHour_37 : decode cX0_followHour 37 = .ok (.aload_n 0, 1) := by decide +kernel
theorem dX0_followHour_38 : decode cX0_followHour 38 = .ok (.getfield 36, 3) := by decide +kernel
theorem dX0_followHour_41 : decode cX0_followHour 41 = .ok (.iload_n 3, 1) := by decide +kernel
theorem dX0_followHour_42 : decode cX0_followHour 42 = .ok (.invokevirtual 64, 3) := by decide +kernel
theorem dX0_followHour_45 : decode cX0_followHour 45 = .ok (.istore 6, 2) := by decide +kernel
theorem dX0_followHour_47 : decode cX0_followHour 47 = .ok (.aload_n 0, 1) := by decide +kernel
theorem dX0_followHour_48 : decode cX0_followHour 48 = .ok (.getfield 36, 3) := by decide +kernel
theorem dX0_followHour_51 : decode cX0_followHour 51 = .ok (.iload 5, 2) := by decide +kernel
theorem dX0_followHour_53 : decode cX0_followHour 53 = .ok (.iload 6, 2) := by decide +kernel
theorem dX0_followHour_55 : decode cX0_followHour 55 = .ok (.invokevirtual 67, 3) := by decide +kernel
theorem dX0_followHour_58 : decode cX0_followHour 58 = .ok (.istore 7, 2) := by decide +kernel
theorem dX0_followHour_60 : decode cX0_followHour 60 = .ok (.aload_n 0, 1) := by decide +kernel
theorem dX0_followHour_61 : decode cX0_followHour 61 = .ok (.getfield 15, 3) := by decide +kernel
theorem dX0_followHour_64 : decode cX0_followHour 64 = .ok (.iload_n 1, 1) := by decide +kernel
theorem dX0_followHour_65 : decode cX0_followHour 65 = .ok (.iload 4, 2) := by decide +kernel
theorem dX0_followHour_67 : decode cX0_followHour 67 = .ok (.iastore, 1) := by decide +kernel
theorem dX0_followHour_68 : decode cX0_followHour 68 = .ok (.aload_n 0, 1) := by decide +kernel
theorem dX0_followHour_69 : decode cX0_followHour 69 = .ok (.getfield 18, 3) := by decide +kernel
theorem dX0_followHour_72 : decode cX0_followHour 72 = .ok (.iload_n 1, 1) := by decide +kernel
theorem dX0_followHour_73 : decode cX0_followHour 73 = .ok (.aload_n 0, 1) := by decide +kernel
theorem dX0_followHour_74 : decode cX0_followHour 74 = .ok (.getfield 36, 3) := by decide +kernel
theorem dX0_followHour_77 : decode cX0_followHour 77 = .ok (.iload 4, 2) := by decide +kernel
theorem dX0_followHour_79 : decode cX0_followHour 79 = .ok (.invokevirtual 70, 3) := by decide +kernel
theorem dX0_followHour_82 : decode cX0_followHour 82 = .ok (.iastore, 1) := by decide +kernel
theorem dX0_followHour_83 : decode cX0_followHour 83 = .ok (.aload_n 0, 1) := by decide +kernel
theorem dX0_followHour_84 : decode cX0_followHour 84 = .ok (.getfield 9, 3) := by decide +kernel
theorem dX0_followHour_87 : decode cX0_followHour 87 = .ok (.iload_n 1, 1) := by decide +kernel
theorem dX0_followHour_88 : decode cX0_followHour 88 = .ok (.iload 7, 2) := by decide +kernel
theorem dX0_followHour_90 : decode cX0_followHour 90 = .ok (.iastore, 1) := by decide +kernel
theorem dX0_followHour_91 : decode cX0_followHour 91 = .ok (.aload_n 0, 1) := by decide +kernel
theorem dX0_followHour_92 : decode cX0_followHour 92 = .ok (.getfield 21, 3) := by decide +kernel
theorem dX0_followHour_95 : decode cX0_followHour 95 = .ok (.iload_n 1, 1) := by decide +kernel
theorem dX0_followHour_96 : decode cX0_followHour 96 = .ok (.aload_n 0, 1) := by decide +kernel
theorem dX0_followHour_97 : decode cX0_followHour 97 = .ok (.getfield 36, 3) := by decide +kernel
theorem dX0_followHour_100 : decode cX0_followHour 100 = .ok (.iload 5, 2) := by decide +kernel
theorem dX0_followHour_102 : decode cX0_followHour 102 = .ok (.iload 7, 2) := by decide +kernel
theorem dX0_followHour_104 : decode cX0_followHour 104 = .ok (.isub, 1) := by decide +kernel
theorem dX0_followHour_105 : decode cX0_followHour 105 = .ok (.invokevirtual 73, 3) := by decide +kernel
theorem dX0_followHour_108 : decode cX0_followHour 108 = .ok (.iastore, 1) := by decide +kernel
theorem dX0_followHour_109 : decode cX0_followHour 109 = .ok (.aload_n 0, 1) := by decide +kernel
theorem dX0_followHour_110 : decode cX0_followHour 110 = .ok (.getfield 24, 3) := by decide +kernel
theorem dX0_followHour_113 : decode cX0_followHour 113 = .ok (.iload_n 1, 1) := by decide +kernel
theorem dX0_followHour_114 : decode cX0_followHour 114 = .ok (.iload 5, 2) := by decide +kernel
theorem dX0_followHour_116 : decode cX0_followHour 116 = .ok (.iload 7, 2) := by decide +kernel
theorem dX0_followHour_118 : decode cX0_followHour 118 = .ok (.isub, 1) := by decide +kernel
theorem dX0_followHour_119 : decode cX0_followHour 119 = .ok (.aload_n 0, 1) := by decide +kernel
theorem dX0_followHour_120 : decode cX0_followHour 120 = .ok (.getfield 21, 3) := by decide +kernel
theorem dX0_followHour_123 : decode cX0_followHour 123 = .ok (.iload_n 1, 1) := by decide +kernel
theorem dX0_followHour_124 : decode cX0_followHour 124 = .ok (.iaload, 1) := by decide +kernel
theorem dX0_followHour_125 : decode cX0_followHour 125 = .ok (.isub, 1) := by decide +kernel
theorem dX0_followHour_126 : decode cX0_followHour 126 = .ok (.iastore, 1) := by decide +kernel
theorem dX0_followHour_127 : decode cX0_followHour 127 = .ok (.aload_n 0, 1) := by decide +kernel
theorem dX0_followHour_128 : decode cX0_followHour 128 = .ok (.getfield 27, 3) := by decide +kernel
theorem dX0_followHour_131 : decode cX0_followHour 131 = .ok (.iload_n 1, 1) := by decide +kernel
theorem dX0_followHour_132 : decode cX0_followHour 132 = .ok (.aload_n 0, 1) := by decide +kernel
theorem dX0_followHour_133 : decode cX0_followHour 133 = .ok (.getfield 36, 3) := by decide +kernel
theorem dX0_followHour_136 : decode cX0_followHour 136 = .ok (.iload_n 1, 1) := by decide +kernel
theorem dX0_followHour_137 : decode cX0_followHour 137 = .ok (.iload 7, 2) := by decide +kernel
theorem dX0_followHour_139 : decode cX0_followHour 139 = .ok (.invokevirtual 76, 3) := by decide +kernel
theorem dX0_followHour_142 : decode cX0_followHour 142 = .ok (.iload 4, 2) := by decide +kernel
theorem dX0_followHour_144 : decode cX0_followHour 144 = .ok (.aload_n 0, 1) := by decide +kernel
theorem dX0_followHour_145 : decode cX0_followHour 145 = .ok (.getfield 36, 3) := by decide +kernel
theorem dX0_followHour_148 : decode cX0_followHour 148 = .ok (.iload_n 1, 1) := by decide +kernel
theorem dX0_followHour_149 : decode cX0_followHour 149 = .ok (.invokevirtual 79, 3) := by decide +kernel
theorem dX0_followHour_152 : decode cX0_followHour 152 = .ok (.imul, 1) := by decide +kernel
theorem dX0_followHour_153 : decode cX0_followHour 153 = .ok (.isub, 1) := by decide +kernel
theorem dX0_followHour_154 : decode cX0_followHour 154 = .ok (.iastore, 1) := by decide +kernel
theorem dX0_followHour_155 : decode cX0_followHour 155 = .ok (.aload_n 0, 1) := by decide +kernel
theorem dX0_followHour_156 : decode cX0_followHour 156 = .ok (.getfield 30, 3) := by decide +kernel
theorem dX0_followHour_159 : decode cX0_followHour 159 = .ok (.iload_n 1, 1) := by decide +kernel
theorem dX0_followHour_160 : decode cX0_followHour 160 = .ok (.aload_n 0, 1) := by decide +kernel
theorem dX0_followHour_161 : decode cX0_followHour 161 = .ok (.iload_n 1, 1) := by decide +kernel
theorem dX0_followHour_162 : decode cX0_followHour 162 = .ok (.iload 7, 2) := by decide +kernel
theorem dX0_followHour_164 : decode cX0_followHour 164 = .ok (.iload 6, 2) := by decide +kernel
theorem dX0_followHour_166 : decode cX0_followHour 166 = .ok (.aload_n 0, 1) := by decide +kernel
theorem dX0_followHour_167 : decode cX0_followHour 167 = .ok (.getfield 21, 3) := by decide +kernel
theorem dX0_followHour_170 : decode cX0_followHour 170 = .ok (.iload_n 1, 1) := by decide +kernel
theorem dX0_followHour_171 : decode cX0_followHour 171 = .ok (.iaload, 1) := by decide +kernel
theorem dX0_followHour_172 : decode cX0_followHour 172 = .ok (.invokevirtual 82, 3) := by decide +kernel
theorem dX0_followHour_175 : decode cX0_followHour 175 = .ok (.iastore, 1) := by decide +kernel
theorem dX0_followHour_176 : decode cX0_followHour 176 = .ok (.aload_n 0, 1) := by decide +kernel
theorem dX0_followHour_177 : decode cX0_followHour 177 = .ok (.getfield 24, 3) := by decide +kernel
theorem dX0_followHour_180 : decode cX0_followHour 180 = .ok (.iload_n 1, 1) := by decide +kernel
theorem dX0_followHour_181 : decode cX0_followHour 181 = .ok (.iaload, 1) := by decide +kernel
theorem dX0_followHour_182 : decode cX0_followHour 182 = .ok (.ireturn, 1) := by decide +kernel
theorem dX0_troubleOf_0 : decode cX0_troubleOf 0 = .ok (.iload_n 2, 1) := by decide +kernel
theorem dX0_troubleOf_1 : decode cX0_troubleOf 1 = .ok (.aload_n 0, 1) := by decide +kernel
theorem dX0_troubleOf_2 : decode cX0_troubleOf 2 = .ok (.getfield 36, 3) := by decide +kernel
theorem dX0_troubleOf_5 : decode cX0_troubleOf 5 = .ok (.iconst 4, 1) := by decide +kernel
theorem dX0_troubleOf_6 : decode cX0_troubleOf 6 = .ok (.invokevirtual 40, 3) := by decide +kernel
theorem dX0_troubleOf_9 : decode cX0_troubleOf 9 = .ok (.if_icmp .ge 5, 3) := by decide +kernel
theorem dX0_troubleOf_12 : decode cX0_troubleOf 12 = .ok (.iconst 1, 1) := by decide +kernel
theorem dX0_troubleOf_13 : decode cX0_troubleOf 13 = .ok (.ireturn, 1) := by decide +kernel
theorem dX0_troubleOf_14 : decode cX0_troubleOf 14 = .ok (.iload_n 2, 1) := by decide +kernel
theorem dX0_troubleOf_15 : decode cX0_troubleOf 15 = .ok (.iload_n 3, 1) := by decide +kernel
theorem dX0_troubleOf_16 : decode cX0_troubleOf 16 = .ok (.if_icmp .ge 5, 3) := by decide +kernel
theorem dX0_troubleOf_19 : decode cX0_troubleOf 19 = .ok (.iconst 2, 1) := by decide +kernel
theorem dX0_troubleOf_20 : decode cX0_troubleOf 20 = .ok (.ireturn, 1) := by decide +kernel
theorem dX0_troubleOf_21 : decode cX0_troubleOf 21 = .ok (.aload_n 0, 1) := by decide +kernel
theorem dX0_troubleOf_22 : decode cX0_troubleOf 22 = .ok (.getfield 36, 3) := by decide +kernel
theorem dX0_troubleOf_25 : decode cX0_troubleOf 25 = .ok (.iload_n 1, 1) := by decide +kernel
theorem dX0_troubleOf_26 : decode cX0_troubleOf 26 = .ok (.iload_n 2, 1) := by decide +kernel
theorem dX0_troubleOf_27 : decode cX0_troubleOf 27 = .ok (.invokevirtual 86, 3) := by decide +kernel
theorem dX0_troubleOf_30 : decode cX0_troubleOf 30 = .ok (.ifCond .le 5, 3) := by decide +kernel
theorem dX0_troubleOf_33 : decode cX0_troubleOf 33 = .ok (.iconst 3, 1) := by decide +kernel
theorem dX0_troubleOf_34 : decode cX0_troubleOf 34 = .ok (.ireturn, 1) := by decide +kernel
theorem dX0_troubleOf_35 : decode cX0_troubleOf 35 = .ok (.iload 4, 2) := by decide +kernel
theorem dX0_troubleOf_37 : decode cX0_troubleOf 37 = .ok (.ifCond .le 7, 3) := by decide +kernel
theorem dX0_troubleOf_40 : decode cX0_troubleOf 40 = .ok (.iconst 4, 1) := by decide +kernel
theorem dX0_troubleOf_41 : decode cX0_troubleOf 41 = .ok (.goto 4, 3) := by decide +kernel
theorem dX0_troubleOf_44 : decode cX0_troubleOf 44 = .ok (.iconst 0, 1) := by decide +kernel
theorem dX0_troubleOf_45 : decode cX0_troubleOf 45 = .ok (.ireturn, 1) := by decide +kernel
theorem dX0_levelInTheEnd_0 : decode cX0_levelInTheEnd 0 = .ok (.aload_n 0, 1) := by decide +kernel
theorem dX0_levelInTheEnd_1 : decode cX0_levelInTheEnd 1 = .ok (.getfield 24, 3) := by decide +kernel
theorem dX0_levelInTheEnd_4 : decode cX0_levelInTheEnd 4 = .ok (.bipush 23, 2) := by decide +kernel
theorem dX0_levelInTheEnd_6 : decode cX0_levelInTheEnd 6 = .ok (.iaload, 1) := by decide +kernel
theorem dX0_levelInTheEnd_7 : decode cX0_levelInTheEnd 7 = .ok (.ireturn, 1) := by decide +kernel
theorem dX0_hoursWith_0 : decode cX0_hoursWith 0 = .ok (.aload_n 0, 1) := by decide +kernel
theorem dX0_hoursWith_1 : decode cX0_hoursWith 1 = .ok (.iload_n 1, 1) := by decide +kernel
theorem dX0_hoursWith_2 : decode cX0_hoursWith 2 = .ok (.invokevirtual 89, 3) := by decide +kernel
theorem dX0_hoursWith_5 : decode cX0_hoursWith 5 = .ok (.invokestatic 92, 3) := by decide +kernel
theorem dX0_hoursWith_8 : decode cX0_hoursWith 8 = .ok (.ireturn, 1) := by decide +kernel
theorem dX0_setOf_0 : decode cX0_setOf 0 = .ok (.iconst 0, 1) := by decide +kernel
theorem dX0_setOf_1 : decode cX0_setOf 1 = .ok (.istore_n 2, 1) := by decide +kernel
theorem dX0_setOf_2 : decode cX0_setOf 2 = .ok (.iconst 0, 1) := by decide +kernel
theorem dX0_setOf_3 : decode cX0_setOf 3 = .ok (.istore_n 3, 1) := by decide +kernel
theorem dX0_setOf_4 : decode cX0_setOf 4 = .ok (.iload_n 3, 1) := by decide +kernel
theorem dX0_setOf_5 : decode cX0_setOf 5 = .ok (.bipush 24, 2) := by decide +kernel
theorem dX0_setOf_7 : decode cX0_setOf 7 = .ok (.if_icmp .ge 25, 3) := by decide +kernel
theorem dX0_setOf_10 : decode cX0_setOf 10 = .ok (.aload_n 0, 1) := by decide +kernel
theorem dX0_setOf_11 : decode cX0_setOf 11 = .ok (.getfield 30, 3) := by decide +kernel
theorem dX0_setOf_14 : decode cX0_setOf 14 = .ok (.iload_n 3, 1) := by decide +kernel
theorem dX0_setOf_15 : decode cX0_setOf 15 = .ok (.iaload, 1) := by decide +kernel
theorem dX0_setOf_16 : decode cX0_setOf 16 = .ok (.iload_n 1, 1) := by decide +kernel
theorem dX0_setOf_17 : decode cX0_setOf 17 = .ok (.if_icmp .ne 9, 3) := by decide +kernel
theorem dX0_setOf_20 : decode cX0_setOf 20 = .ok (.iload_n 2, 1) := by decide +kernel
theorem dX0_setOf_21 : decode cX0_setOf 21 = .ok (.iconst 1, 1) := by decide +kernel
theorem dX0_setOf_22 : decode cX0_setOf 22 = .ok (.iload_n 3, 1) := by decide +kernel
theorem dX0_setOf_23 : decode cX0_setOf 23 = .ok (.ishl, 1) := by decide +kernel
theorem dX0_setOf_24 : decode cX0_setOf 24 = .ok (.ior, 1) := by decide +kernel
theorem dX0_setOf_25 : decode cX0_setOf 25 = .ok (.istore_n 2, 1) := by decide +kernel
theorem dX0_setOf_26 : decode cX0_setOf 26 = .ok (.iinc 3 1, 3) := by decide +kernel
theorem dX0_setOf_29 : decode cX0_setOf 29 = .ok (.goto (-25), 3) := by decide +kernel
theorem dX0_setOf_32 : decode cX0_setOf 32 = .ok (.iload_n 2, 1) := by decide +kernel
theorem dX0_setOf_33 : decode cX0_setOf 33 = .ok (.ireturn, 1) := by decide +kernel
theorem dX0_missedContracts_0 : decode cX0_missedContracts 0 = .ok (.iconst 0, 1) := by decide +kernel
theorem dX0_missedContracts_1 : decode cX0_missedContracts 1 = .ok (.istore_n 1, 1) := by decide +kernel
theorem dX0_missedContracts_2 : decode cX0_missedContracts 2 = .ok (.iconst 0, 1) := by decide +kernel
theorem dX0_missedContracts_3 : decode cX0_missedContracts 3 = .ok (.istore_n 2, 1) := by decide +kernel
theorem dX0_missedContracts_4 : decode cX0_missedContracts 4 = .ok (.iload_n 2, 1) := by decide +kernel
theorem dX0_missedContracts_5 : decode cX0_missedContracts 5 = .ok (.bipush 24, 2) := by decide +kernel
theorem dX0_missedContracts_7 : decode cX0_missedContracts 7 = .ok (.if_icmp .ge 26, 3) := by decide +kernel
theorem dX0_missedContracts_10 : decode cX0_missedContracts 10 = .ok (.iload_n 1, 1) := by decide +kernel
theorem dX0_missedContracts_11 : decode cX0_missedContracts 11 = .ok (.aload_n 0, 1) := by decide +kernel
theorem dX0_missedContracts_12 : decode cX0_missedContracts 12 = .ok (.getfield 36, 3) := by decide +kernel
theorem dX0_missedContracts_15 : decode cX0_missedContracts 15 = .ok (.iload_n 2, 1) := by decide +kernel
theorem dX0_missedContracts_16 : decode cX0_missedContracts 16 = .ok (.aload_n 0, 1) := by decide +kernel
theorem dX0_missedContracts_17 : decode cX0_missedContracts 17 = .ok (.getfield 9, 3) := by decide +kernel
theorem dX0_missedContracts_20 : decode cX0_missedContracts 20 = .ok (.iload_n 2, 1) := by decide +kernel
theorem dX0_missedContracts_21 : decode cX0_missedContracts 21 = .ok (.iaload, 1) := by decide +kernel
theorem dX0_missedContracts_22 : decode cX0_missedContracts 22 = .ok (.invokevirtual 86, 3) := by decide +kernel
theorem dX0_missedContracts_25 : decode cX0_missedContracts 25 = .ok (.iadd, 1) := by decide +kernel
theorem dX0_missedContracts_26 : decode cX0_missedContracts 26 = .ok (.istore_n 1, 1) := by decide +kernel
theorem dX0_missedContracts_27 : decode cX0_missedContracts 27 = .ok (.iinc 2 1, 3) := by decide +kernel
theorem dX0_missedContracts_30 : decode cX0_missedContracts 30 = .ok (.goto (-26), 3) := by decide +kernel
theorem dX0_missedContracts_33 : decode cX0_missedContracts 33 = .ok (.iload_n 1, 1) := by decide +kernel
theorem dX0_missedContracts_34 : decode cX0_missedContracts 34 = .ok (.ireturn, 1) := by decide +kernel
theorem dX1_init_0 : decode cX1_init 0 = .ok (.aload_n 0, 1) := by decide +kernel
theorem dX1_init_1 : decode cX1_init 1 = .ok (.invokespecial 3, 3) := by decide +kernel
theorem dX1_init_4 : decode cX1_init 4 = .ok (.aload_n 0, 1) := by decide +kernel
theorem dX1_init_5 : decode cX1_init 5 = .ok (.bipush 7, 2) := by decide +kernel
theorem dX1_init_7 : decode cX1_init 7 = .ok (.bipush 115, 2) := by decide +kernel
theorem dX1_init_9 : decode cX1_init 9 = .ok (.multianewarray 13 2, 4) := by decide +kernel
theorem dX1_init_13 : decode cX1_init 13 = .ok (.putfield 15, 3) := by decide +kernel
theorem dX1_init_16 : decode cX1_init 16 = .ok (.aload_n 0, 1) := by decide +kernel
theorem dX1_init_17 : decode cX1_init 17 = .ok (.iconst 0, 1) := by decide +kernel
theorem dX1_init_18 : decode cX1_init 18 = .ok (.putfield 18, 3) := by decide +kernel
theorem dX1_init_21 : decode cX1_init 21 = .ok (.aload_n 0, 1) := by decide +kernel
theorem dX1_init_22 : decode cX1_init 22 = .ok (.iconst 0, 1) := by decide +kernel
theorem dX1_init_23 : decode cX1_init 23 = .ok (.putfield 22, 3) := by decide +kernel
theorem dX1_init_26 : decode cX1_init 26 = .ok (.return_, 1) := by decide +kernel
theorem dX1_keepAside_0 : decode cX1_keepAside 0 = .ok (.aload_n 0, 1) := by decide +kernel
theorem dX1_keepAside_1 : decode cX1_keepAside 1 = .ok (.getfield 18, 3) := by decide +kernel
theorem dX1_keepAside_4 : decode cX1_keepAside 4 = .ok (.ifCond .lt 25, 3) := by decide +kernel
theorem dX1_keepAside_7 : decode cX1_keepAside 7 = .ok (.aload_n 0, 1) := by decide +kernel
theorem dX1_keepAside_8 : decode cX1_keepAside 8 = .ok (.getfield 18, 3) := by decide +kernel
theorem dX1_keepAside_11 : decode cX1_keepAside 11 = .ok (.bipush 7, 2) := by decide +kernel
theorem dX1_keepAside_13 : decode cX1_keepAside 13 = .ok (.if_icmp .ge 16, 3) := by decide +kernel
theorem dX1_keepAside_16 : decode cX1_keepAside 16 = .ok (.aload_n 1, 1) := by decide +kernel
theorem dX1_keepAside_17 : decode cX1_keepAside 17 = .ok (.aload_n 0, 1) := by decide +kernel
theorem dX1_keepAside_18 : decode cX1_keepAside 18 = .ok (.getfield 15, 3) := by decide +kernel
theorem dX1_keepAside_21 : decode cX1_keepAside 21 = .ok (.aload_n 0, 1) := by decide +kernel
theorem dX1_keepAside_22 : decode cX1_keepAside 22 = .ok (.getfield 18, 3) := by decide +kernel
theorem dX1_keepAside_25 : decode cX1_keepAside 25 = .ok (.aaload, 1) := by decide +kernel
theorem dX1_keepAside_26 : decode cX1_keepAside 26 = .ok (.invokevirtual 25, 3) := by decide +kernel
theorem dX1_keepAside_29 : decode cX1_keepAside 29 = .ok (.return_, 1) := by decide +kernel
theorem dX1_recordUnlessError_0 : decode cX1_recordUnlessError 0 = .ok (.iload_n 1, 1) := by decide +kernel
theorem dX1_recordUnlessError_1 : decode cX1_recordUnlessError 1 = .ok (.ifCond .lt 31, 3) := by decide +kernel
theorem dX1_recordUnlessError_4 : decode cX1_recordUnlessError 4 = .ok (.aload_n 0, 1) := by decide +kernel
theorem dX1_recordUnlessError_5 : decode cX1_recordUnlessError 5 = .ok (.aload_n 0, 1) := by decide +kernel
theorem dX1_recordUnlessError_6 : decode cX1_recordUnlessError 6 = .ok (.getfield 18, 3) := by decide +kernel
theorem dX1_recordUnlessError_9 : decode cX1_recordUnlessError 9 = .ok (.iconst 1, 1) := by decide +kernel
theorem dX1_recordUnlessError_10 : decode cX1_recordUnlessError 10 = .ok (.iadd, 1) := by decide +kernel
theorem dX1_recordUnlessError_11 : decode cX1_recordUnlessError 11 = .ok (.bipush 7, 2) := by decide +kernel
theorem dX1_recordUnlessError_13 : decode cX1_recordUnlessError 13 = .ok (.irem, 1) := by decide +kernel
theorem dX1_recordUnlessError_14 : decode cX1_recordUnlessError 14 = .ok (.putfield 18, 3) := by decide +kernel
theorem dX1_recordUnlessError_17 : decode cX1_recordUnlessError 17 = .ok (.aload_n 0, 1) := by decide +kernel
theorem dX1_recordUnlessError_18 : decode cX1_recordUnlessError 18 = .ok (.aload_n 0, 1) := by decide +kernel
theorem dX1_recordUnlessError_19 : decode cX1_recordUnlessError 19 = .ok (.getfield 22, 3) := by decide +kernel
theorem dX1_recordUnlessError_22 : decode cX1_recordUnlessError 22 = .ok (.iconst 1, 1) := by decide +kernel
theorem dX1_recordUnlessError_23 : decode cX1_recordUnlessError 23 = .ok (.iadd, 1) := by decide +kernel
theorem dX1_recordUnlessError_24 : decode cX1_recordUnlessError 24 = .ok (.bipush 6, 2) := by decide +kernel
theorem dX1_recordUnlessError_26 : decode cX1_recordUnlessError 26 = .ok (.invokestatic 29, 3) := by decide +kernel
theorem dX1_recordUnlessError_29 : decode cX1_recordUnlessError 29 = .ok (.putfield 22, 3) := by decide +kernel
theorem dX1_recordUnlessError_32 : decode cX1_recordUnlessError 32 = .ok (.iload_n 1, 1) := by decide +kernel
theorem dX1_recordUnlessError_33 : decode cX1_recordUnlessError 33 = .ok (.ireturn, 1) := by decide +kernel
theorem dX1_takeBack_0 : decode cX1_takeBack 0 = .ok (.aload_n 0, 1) := by decide +kernel
theorem dX1_takeBack_1 : decode cX1_takeBack 1 = .ok (.getfield 22, 3) := by decide +kernel
theorem dX1_takeBack_4 : decode cX1_takeBack 4 = .ok (.ifCond .ne 6, 3) := by decide +kernel
theorem dX1_takeBack_7 : decode cX1_takeBack 7 = .ok (.bipush (-5), 2) := by decide +kernel
theorem dX1_takeBack_9 : decode cX1_takeBack 9 = .ok (.ireturn, 1) := by decide +kernel
theorem dX1_takeBack_10 : decode cX1_takeBack 10 = .ok (.aload_n 0, 1) := by decide +kernel
theorem dX1_takeBack_11 : decode cX1_takeBack 11 = .ok (.aload_n 0, 1) := by decide +kernel
theorem dX1_takeBack_12 : decode cX1_takeBack 12 = .ok (.getfield 18, 3) := by decide +kernel
theorem dX1_takeBack_15 : decode cX1_takeBack 15 = .ok (.bipush 7, 2) := by decide +kernel
theorem dX1_takeBack_17 : decode cX1_takeBack 17 = .ok (.iadd, 1) := by decide +kernel
theorem dX1_takeBack_18 : decode cX1_takeBack 18 = .ok (.iconst 1, 1) := by decide +kernel
theorem dX1_takeBack_19 : decode cX1_takeBack 19 = .ok (.isub, 1) := by decide +kernel
theorem dX1_takeBack_20 : decode cX1_takeBack 20 = .ok (.bipush 7, 2) := by decide +kernel
theorem dX1_takeBack_22 : decode cX1_takeBack 22 = .ok (.irem, 1) := by decide +kernel
theorem dX1_takeBack_23 : decode cX1_takeBack 23 = .ok (.putfield 18, 3) := by decide +kernel
theorem dX1_takeBack_26 : decode cX1_takeBack 26 = .ok (.aload_n 0, 1) := by decide +kernel
theorem dX1_takeBack_27 : decode cX1_takeBack 27 = .ok (.dup, 1) := by decide +kernel
theorem dX1_takeBack_28 : decode cX1_takeBack 28 = .ok (.getfield 22, 3) := by decide +kernel
theorem dX1_takeBack_31 : decode cX1_takeBack 31 = .ok (.iconst 1, 1) := by decide +kernel
theorem dX1_takeBack_32 : decode cX1_takeBack 32 = .ok (.isub, 1) := by decide +kernel
theorem dX1_takeBack_33 : decode cX1_takeBack 33 = .ok (.putfield 22, 3) := by decide +kernel
theorem dX1_takeBack_36 : decode cX1_takeBack 36 = .ok (.aload_n 0, 1) := by decide +kernel
theorem dX1_takeBack_37 : decode cX1_takeBack 37 = .ok (.getfield 18, 3) := by decide +kernel
theorem dX1_takeBack_40 : decode cX1_takeBack 40 = .ok (.ifCond .lt 25, 3) := by decide +kernel
theorem dX1_takeBack_43 : decode cX1_takeBack 43 = .ok (.aload_n 0, 1) := by decide +kernel
theorem dX1_takeBack_44 : decode cX1_takeBack 44 = .ok (.getfield 18, 3) := by decide +kernel
theorem dX1_takeBack_47 : decode cX1_takeBack 47 = .ok (.bipush 7, 2) := by decide +kernel
theorem dX1_takeBack_49 : decode cX1_takeBack 49 = .ok (.if_icmp .ge 16, 3) := by decide +kernel
theorem dX1_takeBack_52 : decode cX1_takeBack 52 = .ok (.aload_n 1, 1) := by decide +kernel
theorem dX1_takeBack_53 : decode cX1_takeBack 53 = .ok (.aload_n 0, 1) := by decide +kernel
theorem dX1_takeBack_54 : decode cX1_takeBack 54 = .ok (.getfield 15, 3) := by decide +kernel
theorem dX1_takeBack_57 : decode cX1_takeBack 57 = .ok (.aload_n 0, 1) := by decide +kernel
theorem dX1_takeBack_58 : decode cX1_takeBack 58 = .ok (.getfield 18, 3) := by decide +kernel
theorem dX1_takeBack_61 : decode cX1_takeBack 61 = .ok (.aaload, 1) := by decide +kernel
theorem dX1_takeBack_62 : decode cX1_takeBack 62 = .ok (.invokevirtual 35, 3) := by decide +kernel
theorem dX1_takeBack_65 : decode cX1_takeBack 65 = .ok (.aload_n 0, 1) := by decide +kernel
theorem dX1_takeBack_66 : decode cX1_takeBack 66 = .ok (.getfield 22, 3) := by decide +kernel
theorem dX1_takeBack_69 : decode cX1_takeBack 69 = .ok (.ireturn, 1) := by decide +kernel
theorem dX2_init_0 : decode cX2_init 0 = .ok (.aload_n 0, 1) := by decide +kernel
theorem dX2_init_1 : decode cX2_init 1 = .ok (.invokespecial 5, 3) := by decide +kernel
theorem dX2_init_4 : decode cX2_init 4 = .ok (.aload_n 0, 1) := by decide +kernel
theorem dX2_init_5 : decode cX2_init 5 = .ok (.bipush 115, 2) := by decide +kernel
theorem dX2_init_7 : decode cX2_init 7 = .ok (.newarray .int, 2) := by decide +kernel
theorem dX2_init_9 : decode cX2_init 9 = .ok (.putfield 11, 3) := by decide +kernel
theorem dX2_init_12 : decode cX2_init 12 = .ok (.aload_n 0, 1) := by decide +kernel
theorem dX2_init_13 : decode cX2_init 13 = .ok (.iconst 0, 1) := by decide +kernel
theorem dX2_init_14 : decode cX2_init 14 = .ok (.putfield 15, 3) := by decide +kernel
theorem dX2_init_17 : decode cX2_init 17 = .ok (.getstatic 19, 3) := by decide +kernel
theorem dX2_init_20 : decode cX2_init 20 = .ok (.aload_n 0, 1) := by decide +kernel
theorem dX2_init_21 : decode cX2_init 21 = .ok (.getfield 11, 3) := by decide +kernel
theorem dX2_init_24 : decode cX2_init 24 = .ok (.invokestatic 22, 3) := by decide +kernel
theorem dX2_init_27 : decode cX2_init 27 = .ok (.iconst 0, 1) := by decide +kernel
theorem dX2_init_28 : decode cX2_init 28 = .ok (.istore_n 1, 1) := by decide +kernel
theorem dX2_init_29 : decode cX2_init 29 = .ok (.iload_n 1, 1) := by decide +kernel
theorem dX2_init_30 : decode cX2_init 30 = .ok (.bipush 24, 2) := by decide +kernel
theorem dX2_init_32 : decode cX2_init 32 = .ok (.if_icmp .ge 30, 3) := by decide +kernel
theorem dX2_init_35 : decode cX2_init 35 = .ok (.aload_n 0, 1) := by decide +kernel
theorem dX2_init_36 : decode cX2_init 36 = .ok (.getfield 11, 3) := by decide +kernel
theorem dX2_init_39 : decode cX2_init 39 = .ok (.bipush 10, 2) := by decide +kernel
theorem dX2_init_41 : decode cX2_init 41 = .ok (.iload_n 1, 1) := by decide +kernel
theorem dX2_init_42 : decode cX2_init 42 = .ok (.iadd, 1) := by decide +kernel
theorem dX2_init_43 : decode cX2_init 43 = .ok (.bipush 100, 2) := by decide +kernel
theorem dX2_init_45 : decode cX2_init 45 = .ok (.iastore, 1) := by decide +kernel
theorem dX2_init_46 : decode cX2_init 46 = .ok (.aload_n 0, 1) := by decide +kernel
theorem dX2_init_47 : decode cX2_init 47 = .ok (.getfield 11, 3) := by decide +kernel
theorem dX2_init_50 : decode cX2_init 50 = .ok (.bipush 34, 2) := by decide +kernel
theorem dX2_init_52 : decode cX2_init 52 = .ok (.iload_n 1, 1) := by decide +kernel
theorem dX2_init_53 : decode cX2_init 53 = .ok (.iadd, 1) := by decide +kernel
theorem dX2_init_54 : decode cX2_init 54 = .ok (.iconst 3, 1) := by decide +kernel
theorem dX2_init_55 : decode cX2_init 55 = .ok (.iastore, 1) := by decide +kernel
theorem dX2_init_56 : decode cX2_init 56 = .ok (.iinc 1 1, 3) := by decide +kernel
theorem dX2_init_59 : decode cX2_init 59 = .ok (.goto (-30), 3) := by decide +kernel
theorem dX2_init_62 : decode cX2_init 62 = .ok (.return_, 1) := by decide +kernel
theorem dX2_copyTo_0 : decode cX2_copyTo 0 = .ok (.aload_n 0, 1) := by decide +kernel
theorem dX2_copyTo_1 : decode cX2_copyTo 1 = .ok (.getfield 11, 3) := by decide +kernel
theorem dX2_copyTo_4 : decode cX2_copyTo 4 = .ok (.aload_n 1, 1) := by decide +kernel
theorem dX2_copyTo_5 : decode cX2_copyTo 5 = .ok (.invokestatic 22, 3) := by decide +kernel
theorem dX2_copyTo_8 : decode cX2_copyTo 8 = .ok (.return_, 1) := by decide +kernel
theorem dX2_copyFrom_0 : decode cX2_copyFrom 0 = .ok (.aload_n 1, 1) := by decide +kernel
theorem dX2_copyFrom_1 : decode cX2_copyFrom 1 = .ok (.aload_n 0, 1) := by decide +kernel
theorem dX2_copyFrom_2 : decode cX2_copyFrom 2 = .ok (.getfield 11, 3) := by decide +kernel
theorem dX2_copyFrom_5 : decode cX2_copyFrom 5 = .ok (.invokestatic 22, 3) := by decide +kernel
theorem dX2_copyFrom_8 : decode cX2_copyFrom 8 = .ok (.aload_n 0, 1) := by decide +kernel
theorem dX2_copyFrom_9 : decode cX2_copyFrom 9 = .ok (.dup, 1) := by decide +kernel
theorem dX2_copyFrom_10 : decode cX2_copyFrom 10 = .ok (.getfield 15, 3) := by decide +kernel
theorem dX2_copyFrom_13 : decode cX2_copyFrom 13 = .ok (.iconst 1, 1) := by decide +kernel
theorem dX2_copyFrom_14 : decode cX2_copyFrom 14 = .ok (.iadd, 1) := by decide +kernel
theorem dX2_copyFrom_15 : decode cX2_copyFrom 15 = .ok (.putfield 15, 3) := by decide +kernel
