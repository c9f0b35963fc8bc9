theorem dX6_contract_1 : decode cX6_contract 1 = .ok (.getfield 51, 3) := by decide +kernel
theorem dX6_contract_4 : decode cX6_contract 4 = .ok (.aload_n 0, 1) := by decide +kernel
theorem dX6_contract_5 : decode cX6_contract 5 = .ok (.getfield 10, 3) := by decide +kernel
theorem dX6_contract_8 : decode cX6_contract 8 = .ok (.invokevirtual 64, 3) := by decide +kernel
theorem dX6_contract_11 : decode cX6_contract 11 = .ok (.aload_n 0, 1) := by decide +kernel
theorem dX6_contract_12 : decode cX6_contract 12 = .ok (.getfield 51, 3) := by decide +kernel
theorem dX6_contract_15 : decode cX6_contract 15 = .ok (.aload_n 0, 1) := by decide +kernel
theorem dX6_contract_16 : decode cX6_contract 16 = .ok (.getfield 10, 3) := by decide +kernel
theorem dX6_contract_19 : decode cX6_contract 19 = .ok (.iload_n 1, 1) := by decide +kernel
theorem dX6_contract_20 : decode cX6_contract 20 = .ok (.iload_n 2, 1) := by decide +kernel
theorem dX6_contract_21 : decode cX6_contract 21 = .ok (.iload_n 3, 1) := by decide +kernel
theorem dX6_contract_22 : decode cX6_contract 22 = .ok (.iload 4, 2) := by decide +kernel
theorem dX6_contract_24 : decode cX6_contract 24 = .ok (.invokevirtual 84, 3) := by decide +kernel
theorem dX6_contract_27 : decode cX6_contract 27 = .ok (.invokevirtual 71, 3) := by decide +kernel
theorem dX6_contract_30 : decode cX6_contract 30 = .ok (.ireturn, 1) := by decide +kernel
theorem dX6_drop_0 : decode cX6_drop 0 = .ok (.aload_n 0, 1) := by decide +kernel
theorem dX6_drop_1 : decode cX6_drop 1 = .ok (.getfield 51, 3) := by decide +kernel
theorem dX6_drop_4 : decode cX6_drop 4 = .ok (.aload_n 0, 1) := by decide +kernel
theorem dX6_drop_5 : decode cX6_drop 5 = .ok (.getfield 10, 3) := by decide +kernel
theorem dX6_drop_8 : decode cX6_drop 8 = .ok (.invokevirtual 64, 3) := by decide +kernel
theorem dX6_drop_11 : decode cX6_drop 11 = .ok (.aload_n 0, 1) := by decide +kernel
theorem dX6_drop_12 : decode cX6_drop 12 = .ok (.getfield 51, 3) := by decide +kernel
theorem dX6_drop_15 : decode cX6_drop 15 = .ok (.aload_n 0, 1) := by decide +kernel
theorem dX6_drop_16 : decode cX6_drop 16 = .ok (.getfield 10, 3) := by decide +kernel
theorem dX6_drop_19 : decode cX6_drop 19 = .ok (.iload_n 1, 1) := by decide +kernel
theorem dX6_drop_20 : decode cX6_drop 20 = .ok (.invokevirtual 88, 3) := by decide +kernel
theorem dX6_drop_23 : decode cX6_drop 23 = .ok (.invokevirtual 71, 3) := by decide +kernel
theorem dX6_drop_26 : decode cX6_drop 26 = .ok (.ireturn, 1) := by decide +kernel
theorem dX6_adopt_0 : decode cX6_adopt 0 = .ok (.aload_n 0, 1) := by decide +kernel
theorem dX6_adopt_1 : decode cX6_adopt 1 = .ok (.getfield 51, 3) := by decide +kernel
theorem dX6_adopt_4 : decode cX6_adopt 4 = .ok (.aload_n 0, 1) := by decide +kernel
theorem dX6_adopt_5 : decode cX6_adopt 5 = .ok (.getfield 10, 3) := by decide +kernel
theorem dX6_adopt_8 : decode cX6_adopt 8 = .ok (.invokevirtual 64, 3) := by decide +kernel
theorem dX6_adopt_11 : decode cX6_adopt 11 = .ok (.aload_n 0, 1) := by decide +kernel
theorem dX6_adopt_12 : decode cX6_adopt 12 = .ok (.getfield 51, 3) := by decide +kernel
theorem dX6_adopt_15 : decode cX6_adopt 15 = .ok (.aload_n 0, 1) := by decide +kernel
theorem dX6_adopt_16 : decode cX6_adopt 16 = .ok (.invokevirtual 91, 3) := by decide +kernel
theorem dX6_adopt_19 : decode cX6_adopt 19 = .ok (.invokevirtual 71, 3) := by decide +kernel
theorem dX6_adopt_22 : decode cX6_adopt 22 = .ok (.ireturn, 1) := by decide +kernel
theorem dX6_hour_0 : decode cX6_hour 0 = .ok (.iload_n 1, 1) := by decide +kernel
theorem dX6_hour_1 : decode cX6_hour 1 = .ok (.invokestatic 95, 3) := by decide +kernel
theorem dX6_hour_4 : decode cX6_hour 4 = .ok (.ifCond .ne 5, 3) := by decide +kernel
theorem dX6_hour_7 : decode cX6_hour 7 = .ok (.iconst (-1), 1) := by decide +kernel
theorem dX6_hour_8 : decode cX6_hour 8 = .ok (.ireturn, 1) := by decide +kernel
theorem dX6_hour_9 : decode cX6_hour 9 = .ok (.aload_n 0, 1) := by decide +kernel
theorem dX6_hour_10 : decode cX6_hour 10 = .ok (.getfield 21, 3) := by decide +kernel
theorem dX6_hour_13 : decode cX6_hour 13 = .ok (.invokevirtual 99, 3) := by decide +kernel
theorem dX6_hour_16 : decode cX6_hour 16 = .ok (.iload_n 2, 1) := by decide +kernel
theorem dX6_hour_17 : decode cX6_hour 17 = .ok (.tableswitch 172 0 10 #[59, 68, 77, 89, 99, 109, 119, 129, 139, 152, 162], 59) := by decide +kernel
theorem dX6_hour_76 : decode cX6_hour 76 = .ok (.aload_n 0, 1) := by decide +kernel
theorem dX6_hour_77 : decode cX6_hour 77 = .ok (.getfield 10, 3) := by decide +kernel
theorem dX6_hour_80 : decode cX6_hour 80 = .ok (.iload_n 1, 1) := by decide +kernel
theorem dX6_hour_81 : decode cX6_hour 81 = .ok (.invokevirtual 102, 3) := by decide +kernel
theorem dX6_hour_84 : decode cX6_hour 84 = .ok (.ireturn, 1) := by decide +kernel
theorem dX6_hour_85 : decode cX6_hour 85 = .ok (.aload_n 0, 1) := by decide +kernel
theorem dX6_hour_86 : decode cX6_hour 86 = .ok (.getfield 10, 3) := by decide +kernel
theorem dX6_hour_89 : decode cX6_hour 89 = .ok (.iload_n 1, 1) := by decide +kernel
theorem dX6_hour_90 : decode cX6_hour 90 = .ok (.invokevirtual 105, 3) := by decide +kernel
theorem dX6_hour_93 : decode cX6_hour 93 = .ok (.ireturn, 1) := by decide +kernel
theorem dX6_hour_94 : decode cX6_hour 94 = .ok (.aload_n 0, 1) := by decide +kernel
theorem dX6_hour_95 : decode cX6_hour 95 = .ok (.getfield 10, 3) := by decide +kernel
theorem dX6_hour_98 : decode cX6_hour 98 = .ok (.iload_n 1, 1) := by decide +kernel
theorem dX6_hour_99 : decode cX6_hour 99 = .ok (.invokevirtual 108, 3) := by decide +kernel
theorem dX6_hour_102 : decode cX6_hour 102 = .ok (.bipush 100, 2) := by decide +kernel
theorem dX6_hour_104 : decode cX6_hour 104 = .ok (.iadd, 1) := by decide +kernel
theorem dX6_hour_105 : decode cX6_hour 105 = .ok (.ireturn, 1) := by decide +kernel
theorem dX6_hour_106 : decode cX6_hour 106 = .ok (.aload_n 0, 1) := by decide +kernel
theorem dX6_hour_107 : decode cX6_hour 107 = .ok (.getfield 21, 3) := by decide +kernel
theorem dX6_hour_110 : decode cX6_hour 110 = .ok (.getfield 111, 3) := by decide +kernel
theorem dX6_hour_113 : decode cX6_hour 113 = .ok (.iload_n 1, 1) := by decide +kernel
theorem dX6_hour_114 : decode cX6_hour 114 = .ok (.iaload, 1) := by decide +kernel
theorem dX6_hour_115 : decode cX6_hour 115 = .ok (.ireturn, 1) := by decide +kernel
theorem dX6_hour_116 : decode cX6_hour 116 = .ok (.aload_n 0, 1) := by decide +kernel
theorem dX6_hour_117 : decode cX6_hour 117 = .ok (.getfield 21, 3) := by decide +kernel
theorem dX6_hour_120 : decode cX6_hour 120 = .ok (.getfield 115, 3) := by decide +kernel
theorem dX6_hour_123 : decode cX6_hour 123 = .ok (.iload_n 1, 1) := by decide +kernel
theorem dX6_hour_124 : decode cX6_hour 124 = .ok (.iaload, 1) := by decide +kernel
theorem dX6_hour_125 : decode cX6_hour 125 = .ok (.ireturn, 1) := by decide +kernel
theorem dX6_hour_126 : decode cX6_hour 126 = .ok (.aload_n 0, 1) := by decide +kernel
theorem dX6_hour_127 : decode cX6_hour 127 = .ok (.getfield 21, 3) := by decide +kernel
theorem dX6_hour_130 : decode cX6_hour 130 = .ok (.getfield 118, 3) := by decide +kernel
theorem dX6_hour_133 : decode cX6_hour 133 = .ok (.iload_n 1, 1) := by decide +kernel
theorem dX6_hour_134 : decode cX6_hour 134 = .ok (.iaload, 1) := by decide +kernel
theorem dX6_hour_135 : decode cX6_hour 135 = .ok (.ireturn, 1) := by decide +kernel
theorem dX6_hour_136 : decode cX6_hour 136 = .ok (.aload_n 0, 1) := by decide +kernel
theorem dX6_hour_137 : decode cX6_hour 137 = .ok (.getfield 21, 3) := by decide +kernel
theorem dX6_hour_140 : decode cX6_hour 140 = .ok (.getfield 121, 3) := by decide +kernel
theorem dX6_hour_143 : decode cX6_hour 143 = .ok (.iload_n 1, 1) := by decide +kernel
theorem dX6_hour_144 : decode cX6_hour 144 = .ok (.iaload, 1) := by decide +kernel
theorem dX6_hour_145 : decode cX6_hour 145 = .ok (.ireturn, 1) := by decide +kernel
theorem dX6_hour_146 : decode cX6_hour 146 = .ok (.aload_n 0, 1) := by decide +kernel
theorem dX6_hour_147 : decode cX6_hour 147 = .ok (.getfield 21, 3) := by decide +kernel
theorem dX6_hour_150 : decode cX6_hour 150 = .ok (.getfield 124, 3) := by decide +kernel
theorem dX6_hour_153 : decode cX6_hour 153 = .ok (.iload_n 1, 1) := by decide +kernel
theorem dX6_hour_154 : decode cX6_hour 154 = .ok (.iaload, 1) := by decide +kernel
theorem dX6_hour_155 : decode cX6_hour 155 = .ok (.ireturn, 1) := by decide +kernel
theorem dX6_hour_156 : decode cX6_hour 156 = .ok (.aload_n 0, 1) := by decide +kernel
theorem dX6_hour_157 : decode cX6_hour 157 = .ok (.getfield 21, 3) := by decide +kernel
theorem dX6_hour_160 : decode cX6_hour 160 = .ok (.getfield 127, 3) := by decide +kernel
theorem dX6_hour_163 : decode cX6_hour 163 = .ok (.iload_n 1, 1) := by decide +kernel
theorem dX6_hour_164 : decode cX6_hour 164 = .ok (.iaload, 1) := by decide +kernel
theorem dX6_hour_165 : decode cX6_hour 165 = .ok (.ldc 130, 2) := by decide +kernel
theorem dX6_hour_167 : decode cX6_hour 167 = .ok (.iadd, 1) := by decide +kernel
theorem dX6_hour_168 : decode cX6_hour 168 = .ok (.ireturn, 1) := by decide +kernel
theorem dX6_hour_169 : decode cX6_hour 169 = .ok (.aload_n 0, 1) := by decide +kernel
theorem dX6_hour_170 : decode cX6_hour 170 = .ok (.getfield 21, 3) := by decide +kernel
theorem dX6_hour_173 : decode cX6_hour 173 = .ok (.getfield 131, 3) := by decide +kernel
theorem dX6_hour_176 : decode cX6_hour 176 = .ok (.iload_n 1, 1) := by decide +kernel
theorem dX6_hour_177 : decode cX6_hour 177 = .ok (.iaload, 1) := by decide +kernel
theorem dX6_hour_178 : decode cX6_hour 178 = .ok (.ireturn, 1) := by decide +kernel
theorem dX6_hour_179 : decode cX6_hour 179 = .ok (.aload_n 0, 1) := by decide +kernel
theorem dX6_hour_180 : decode cX6_hour 180 = .ok (.getfield 21, 3) := by decide +kernel
theorem dX6_hour_183 : decode cX6_hour 183 = .ok (.getfield 134, 3) := by decide +kernel
theorem dX6_hour_186 : decode cX6_hour 186 = .ok (.iload_n 1, 1) := by decide +kernel
theorem dX6_hour_187 : decode cX6_hour 187 = .ok (.iaload, 1) := by decide +kernel
theorem dX6_hour_188 : decode cX6_hour 188 = .ok (.ireturn, 1) := by decide +kernel
theorem dX6_hour_189 : decode cX6_hour 189 = .ok (.bipush (-2), 2) := by decide +kernel
theorem dX6_hour_191 : decode cX6_hour 191 = .ok (.ireturn, 1) := by decide +kernel
theorem dX6_day_0 : decode cX6_day 0 = .ok (.aload_n 0, 1) := by decide +kernel
theorem dX6_day_1 : decode cX6_day 1 = .ok (.getfield 21, 3) := by decide +kernel
theorem dX6_day_4 : decode cX6_day 4 = .ok (.invokevirtual 99, 3) := by decide +kernel
theorem dX6_day_7 : decode cX6_day 7 = .ok (.iload_n 1, 1) := by decide +kernel
theorem dX6_day_8 : decode cX6_day 8 = .ok (.tableswitch 185 0 10 #[60, 65, 76, 87, 98, 109, 117, 126, 144, 152, 177], 60) := by decide +kernel
theorem dX6_day_68 : decode cX6_day 68 = .ok (.aload_n 0, 1) := by decide +kernel
theorem dX6_day_69 : decode cX6_day 69 = .ok (.invokevirtual 146, 3) := by decide +kernel
theorem dX6_day_72 : decode cX6_day 72 = .ok (.ireturn, 1) := by decide +kernel
theorem dX6_day_73 : decode cX6_day 73 = .ok (.aload_n 0, 1) := by decide +kernel
theorem dX6_day_74 : decode cX6_day 74 = .ok (.getfield 21, 3) := by decide +kernel
theorem dX6_day_77 : decode cX6_day 77 = .ok (.getfield 111, 3) := by decide +kernel
theorem dX6_day_80 : decode cX6_day 80 = .ok (.invokestatic 149, 3) := by decide +kernel
theorem dX6_day_83 : decode cX6_day 83 = .ok (.ireturn, 1) := by decide +kernel
theorem dX6_day_84 : decode cX6_day 84 = .ok (.aload_n 0, 1) := by decide +kernel
theorem dX6_day_85 : decode cX6_day 85 = .ok (.getfield 21, 3) := by decide +kernel
theorem dX6_day_88 : decode cX6_day 88 = .ok (.getfield 115, 3) := by decide +kernel
theorem dX6_day_91 : decode cX6_day 91 = .ok (.invokestatic 149, 3) := by decide +kernel
theorem dX6_day_94 : decode cX6_day 94 = .ok (.ireturn, 1) := by decide +kernel
theorem dX6_day_95 : decode cX6_day 95 = .ok (.aload_n 0, 1) := by decide +kernel
theorem dX6_day_96 : decode cX6_day 96 = .ok (.getfield 21, 3) := by decide +kernel
theorem dX6_day_99 : decode cX6_day 99 = .ok (.getfield 118, 3) := by decide +kernel
theorem dX6_day_102 : decode cX6_day 102 = .ok (.invokestatic 149, 3) := by decide +kernel
theorem dX6_day_105 : decode cX6_day 105 = .ok (.ireturn, 1) := by decide +kernel
theorem dX6_day_106 : decode cX6_day 106 = .ok (.aload_n 0, 1) := by decide +kernel
theorem dX6_day_107 : decode cX6_day 107 = .ok (.getfield 21, 3) := by decide +kernel
theorem dX6_day_110 : decode cX6_day 110 = .ok (.getfield 121, 3) := by decide +kernel
theorem dX6_day_113 : decode cX6_day 113 = .ok (.invokestatic 149, 3) := by decide +kernel
theorem dX6_day_116 : decode cX6_day 116 = .ok (.ireturn, 1) := by decide +kernel
theorem dX6_day_117 : decode cX6_day 117 = .ok (.aload_n 0, 1) := by decide +kernel
theorem dX6_day_118 : decode cX6_day 118 = .ok (.getfield 21, 3) := by decide +kernel
theorem dX6_day_121 : decode cX6_day 121 = .ok (.invokevirtual 153, 3) := by decide +kernel
theorem dX6_day_124 : decode cX6_day 124 = .ok (.ireturn, 1) := by decide +kernel
theorem dX6_day_125 : decode cX6_day 125 = .ok (.aload_n 0, 1) := by decide +kernel
theorem dX6_day_126 : decode cX6_day 126 = .ok (.getfield 21, 3) := by decide +kernel
theorem dX6_day_129 : decode cX6_day 129 = .ok (.iconst 1, 1) := by decide +kernel
theorem dX6_day_130 : decode cX6_day 130 = .ok (.invokevirtual 156, 3) := by decide +kernel
theorem dX6_day_133 : decode cX6_day 133 = .ok (.ireturn, 1) := by decide +kernel
theorem dX6_day_134 : decode cX6_day 134 = .ok (.aload_n 0, 1) := by decide +kernel
theorem dX6_day_135 : decode cX6_day 135 = .ok (.getfield 21, 3) := by decide +kernel
theorem dX6_day_138 : decode cX6_day 138 = .ok (.iconst 1, 1) := by decide +kernel
theorem dX6_day_139 : decode cX6_day 139 = .ok (.invokevirtual 156, 3) := by decide +kernel
theorem dX6_day_142 : decode cX6_day 142 = .ok (.aload_n 0, 1) := by decide +kernel
theorem dX6_day_143 : decode cX6_day 143 = .ok (.getfield 21, 3) := by decide +kernel
theorem dX6_day_146 : decode cX6_day 146 = .ok (.iconst 2, 1) := by decide +kernel
theorem dX6_day_147 : decode cX6_day 147 = .ok (.invokevirtual 156, 3) := by decide +kernel
theorem dX6_day_150 : decode cX6_day 150 = .ok (.iadd, 1) := by decide +kernel
theorem dX6_day_151 : decode cX6_day 151 = .ok (.ireturn, 1) := by decide +kernel
theorem dX6_day_152 : decode cX6_day 152 = .ok (.aload_n 0, 1) := by decide +kernel
theorem dX6_day_153 : decode cX6_day 153 = .ok (.getfield 21, 3) := by decide +kernel
theorem dX6_day_156 : decode cX6_day 156 = .ok (.invokevirtual 159, 3) := by decide +kernel
theorem dX6_day_159 : decode cX6_day 159 = .ok (.ireturn, 1) := by decide +kernel
theorem dX6_day_160 : decode cX6_day 160 = .ok (.aload_n 0, 1) := by decide +kernel
theorem dX6_day_161 : decode cX6_day 161 = .ok (.getfield 21, 3) := by decide +kernel
theorem dX6_day_164 : decode cX6_day 164 = .ok (.invokevirtual 153, 3) := by decide +kernel
theorem dX6_day_167 : decode cX6_day 167 = .ok (.aload_n 0, 1) := by decide +kernel
theorem dX6_day_168 : decode cX6_day 168 = .ok (.getfield 10, 3) := by decide +kernel
theorem dX6_day_171 : decode cX6_day 171 = .ok (.bipush 8, 2) := by decide +kernel
theorem dX6_day_173 : decode cX6_day 173 = .ok (.invokevirtual 162, 3) := by decide +kernel
theorem dX6_day_176 : decode cX6_day 176 = .ok (.if_icmp .lt 7, 3) := by decide +kernel
theorem dX6_day_179 : decode cX6_day 179 = .ok (.iconst 1, 1) := by decide +kernel
theorem dX6_day_180 : decode cX6_day 180 = .ok (.goto 4, 3) := by decide +kernel
theorem dX6_day_183 : decode cX6_day 183 = .ok (.iconst 0, 1) := by decide +kernel
theorem dX6_day_184 : decode cX6_day 184 = .ok (.ireturn, 1) := by decide +kernel
theorem dX6_day_185 : decode cX6_day 185 = .ok (.aload_n 0, 1) := by decide +kernel
theorem dX6_day_186 : decode cX6_day 186 = .ok (.getfield 10, 3) := by decide +kernel
theorem dX6_day_189 : decode cX6_day 189 = .ok (.invokevirtual 165, 3) := by decide +kernel
theorem dX6_day_192 : decode cX6_day 192 = .ok (.ireturn, 1) := by decide +kernel
theorem dX6_day_193 : decode cX6_day 193 = .ok (.bipush (-2), 2) := by decide +kernel
theorem dX6_day_195 : decode cX6_day 195 = .ok (.ireturn, 1) := by decide +kernel
theorem dX6_troubled_0 : decode cX6_troubled 0 = .ok (.iload_n 1, 1) := by decide +kernel
theorem dX6_troubled_1 : decode cX6_troubled 1 = .ok (.iconst 1, 1) := by decide +kernel
theorem dX6_troubled_2 : decode cX6_troubled 2 = .ok (.if_icmp .lt 8, 3) := by decide +kernel
theorem dX6_troubled_5 : decode cX6_troubled 5 = .ok (.iload_n 1, 1) := by decide +kernel
theorem dX6_troubled_6 : decode cX6_troubled 6 = .ok (.iconst 4, 1) := by decide +kernel
theorem dX6_troubled_7 : decode cX6_troubled 7 = .ok (.if_icmp .le 6, 3) := by decide +kernel
theorem dX6_troubled_10 : decode cX6_troubled 10 = .ok (.bipush (-2), 2) := by decide +kernel
theorem dX6_troubled_12 : decode cX6_troubled 12 = .ok (.ireturn, 1) := by decide +kernel
theorem dX6_troubled_13 : decode cX6_troubled 13 = .ok (.aload_n 0, 1) := by decide +kernel
theorem dX6_troubled_14 : decode cX6_troubled 14 = .ok (.getfield 21, 3) := by decide +kernel
theorem dX6_troubled_17 : decode cX6_troubled 17 = .ok (.invokevirtual 99, 3) := by decide +kernel
theorem dX6_troubled_20 : decode cX6_troubled 20 = .ok (.aload_n 0, 1) := by decide +kernel
theorem dX6_troubled_21 : decode cX6_troubled 21 = .ok (.getfield 21, 3) := by decide +kernel
theorem dX6_troubled_24 : decode cX6_troubled 24 = .ok (.iload_n 1, 1) := by decide +kernel
theorem dX6_troubled_25 : decode cX6_troubled 25 = .ok (.invokevirtual 168, 3) := by decide +kernel
theorem dX6_troubled_28 : decode cX6_troubled 28 = .ok (.ireturn, 1) := by decide +kernel
theorem dX6_count_0 : decode cX6_count 0 = .ok (.iload_n 1, 1) := by decide +kernel
theorem dX6_count_1 : decode cX6_count 1 = .ok (.ifCond .lt 18, 3) := by decide +kernel
theorem dX6_count_4 : decode cX6_count 4 = .ok (.iload_n 1, 1) := by decide +kernel
theorem dX6_count_5 : decode cX6_count 5 = .ok (.bipush 10, 2) := by decide +kernel
theorem dX6_count_7 : decode cX6_count 7 = .ok (.if_icmp .ge 12, 3) := by decide +kernel
theorem dX6_count_10 : decode cX6_count 10 = .ok (.aload_n 0, 1) := by decide +kernel
theorem dX6_count_11 : decode cX6_count 11 = .ok (.getfield 10, 3) := by decide +kernel
theorem dX6_count_14 : decode cX6_count 14 = .ok (.iload_n 1, 1) := by decide +kernel
theorem dX6_count_15 : decode cX6_count 15 = .ok (.invokevirtual 162, 3) := by decide +kernel
theorem dX6_count_18 : decode cX6_count 18 = .ok (.ireturn, 1) := by decide +kernel
theorem dX6_count_19 : decode cX6_count 19 = .ok (.iload_n 1, 1) := by decide +kernel
theorem dX6_count_20 : decode cX6_count 20 = .ok (.tableswitch 52 10 12 #[28, 36, 44], 28) := by decide +kernel
theorem dX6_count_48 : decode cX6_count 48 = .ok (.aload_n 0, 1) := by decide +kernel
theorem dX6_count_49 : decode cX6_count 49 = .ok (.getfield 10, 3) := by decide +kernel
theorem dX6_count_52 : decode cX6_count 52 = .ok (.invokevirtual 171, 3) := by decide +kernel
theorem dX6_count_55 : decode cX6_count 55 = .ok (.ireturn, 1) := by decide +kernel
theorem dX6_count_56 : decode cX6_count 56 = .ok (.aload_n 0, 1) := by decide +kernel
theorem dX6_count_57 : decode cX6_count 57 = .ok (.getfield 35, 3) := by decide +kernel
theorem dX6_count_60 : decode cX6_count 60 = .ok (.getfield 174, 3) := by decide +kernel
theorem dX6_count_63 : decode cX6_count 63 = .ok (.ireturn, 1) := by decide +kernel
theorem dX6_count_64 : decode cX6_count 64 = .ok (.aload_n 0, 1) := by decide +kernel
theorem dX6_count_65 : decode cX6_count 65 = .ok (.getfield 51, 3) := by decide +kernel
theorem dX6_count_68 : decode cX6_count 68 = .ok (.getfield 178, 3) := by decide +kernel
theorem dX6_count_71 : decode cX6_count 71 = .ok (.ireturn, 1) := by decide +kernel
theorem dX6_count_72 : decode cX6_count 72 = .ok (.bipush (-2), 2) := by decide +kernel
theorem dX6_count_74 : decode cX6_count 74 = .ok (.ireturn, 1) := by decide +kernel
theorem dX6_best_0 : decode cX6_best 0 = .ok (.aload_n 0, 1) := by decide +kernel
theorem dX6_best_1 : decode cX6_best 1 = .ok (.getfield 28, 3) := by decide +kernel
theorem dX6_best_4 : decode cX6_best 4 = .ok (.invokevirtual 179, 3) := by decide +kernel
theorem dX6_best_7 : decode cX6_best 7 = .ok (.aload_n 0, 1) := by decide +kernel
theorem dX6_best_8 : decode cX6_best 8 = .ok (.getfield 28, 3) := by decide +kernel
theorem dX6_best_11 : decode cX6_best 11 = .ok (.iconst 0, 1) := by decide +kernel
theorem dX6_best_12 : decode cX6_best 12 = .ok (.aload_n 0, 1) := by decide +kernel
theorem dX6_best_13 : decode cX6_best 13 = .ok (.getfield 10, 3) := by decide +kernel
theorem dX6_best_16 : decode cX6_best 16 = .ok (.bipush 7, 2) := by decide +kernel
theorem dX6_best_18 : decode cX6_best 18 = .ok (.invokevirtual 162, 3) := by decide +kernel
theorem dX6_best_21 : decode cX6_best 21 = .ok (.invokevirtual 182, 3) := by decide +kernel
theorem dX6_best_24 : decode cX6_best 24 = .ok (.istore_n 1, 1) := by decide +kernel
theorem dX6_best_25 : decode cX6_best 25 = .ok (.iload_n 1, 1) := by decide +kernel
theorem dX6_best_26 : decode cX6_best 26 = .ok (.ldc 185, 2) := by decide +kernel
theorem dX6_best_28 : decode cX6_best 28 = .ok (.if_icmp .ne 8, 3) := by decide +kernel
theorem dX6_best_31 : decode cX6_best 31 = .ok (.bipush (-6), 2) := by decide +kernel
theorem dX6_best_33 : decode cX6_best 33 = .ok (.goto 7, 3) := by decide +kernel
theorem dX6_best_36 : decode cX6_best 36 = .ok (.iload_n 1, 1) := by decide +kernel
theorem dX6_best_37 : decode cX6_best 37 = .ok (.ldc 186, 2) := by decide +kernel
theorem dX6_best_39 : decode cX6_best 39 = .ok (.iadd, 1) := by decide +kernel
theorem dX6_best_40 : decode cX6_best 40 = .ok (.ireturn, 1) := by decide +kernel
theorem dX6_bestPlan_0 : decode cX6_bestPlan 0 = .ok (.iload_n 1, 1) := by decide +kernel
theorem dX6_bestPlan_1 : decode cX6_bestPlan 1 = .ok (.invokestatic 95, 3) := by decide +kernel
theorem dX6_bestPlan_4 : decode cX6_bestPlan 4 = .ok (.ifCond .ne 5, 3) := by decide +kernel
theorem dX6_bestPlan_7 : decode cX6_bestPlan 7 = .ok (.iconst (-1), 1) := by decide +kernel
theorem dX6_bestPlan_8 : decode cX6_bestPlan 8 = .ok (.ireturn, 1) := by decide +kernel
theorem dX6_bestPlan_9 : decode cX6_bestPlan 9 = .ok (.aload_n 0, 1) := by decide +kernel
theorem dX6_bestPlan_10 : decode cX6_bestPlan 10 = .ok (.getfield 28, 3) := by decide +kernel
theorem dX6_bestPlan_13 : decode cX6_bestPlan 13 = .ok (.invokevirtual 179, 3) := by decide +kernel
theorem dX6_bestPlan_16 : decode cX6_bestPlan 16 = .ok (.aload_n 0, 1) := by decide +kernel
theorem dX6_bestPlan_17 : decode cX6_bestPlan 17 = .ok (.getfield 28, 3) := by decide +kernel
theorem dX6_bestPlan_20 : decode cX6_bestPlan 20 = .ok (.getfield 187, 3) := by decide +kernel
theorem dX6_bestPlan_23 : decode cX6_bestPlan 23 = .ok (.ifCond .eq 18, 3) := by decide +kernel
theorem dX6_bestPlan_26 : decode cX6_bestPlan 26 = .ok (.aload_n 0, 1) := by decide +kernel
theorem dX6_bestPlan_27 : decode cX6_bestPlan 27 = .ok (.getfield 28, 3) := by decide +kernel
theorem dX6_bestPlan_30 : decode cX6_bestPlan 30 = .ok (.getfield 191, 3) := by decide +kernel
theorem dX6_bestPlan_33 : decode cX6_bestPlan 33 = .ok (.iload_n 1, 1) := by decide +kernel
theorem dX6_bestPlan_34 : decode cX6_bestPlan 34 = .ok (.iaload, 1) := by decide +kernel
theorem dX6_bestPlan_35 : decode cX6_bestPlan 35 = .ok (.bipush 100, 2) := by decide +kernel
theorem dX6_bestPlan_37 : decode cX6_bestPlan 37 = .ok (.iadd, 1) := by decide +kernel
theorem dX6_bestPlan_38 : decode cX6_bestPlan 38 = .ok (.goto 5, 3) := by decide +kernel
theorem dX6_bestPlan_41 : decode cX6_bestPlan 41 = .ok (.bipush (-6), 2) := by decide +kernel
theorem dX6_bestPlan_43 : decode cX6_bestPlan 43 = .ok (.ireturn, 1) := by decide +kernel
theorem dX6_worth_0 : decode cX6_worth 0 = .ok (.iload_n 1, 1) := by decide +kernel
theorem dX6_worth_1 : decode cX6_worth 1 = .ok (.sipush (-200), 3) := by decide +kernel
theorem dX6_worth_4 : decode cX6_worth 4 = .ok (.if_icmp .lt 10, 3) := by decide +kernel
theorem dX6_worth_7 : decode cX6_worth 7 = .ok (.iload_n 1, 1) := by decide +kernel
theorem dX6_worth_8 : decode cX6_worth 8 = .ok (.sipush 200, 3) := by decide +kernel
theorem dX6_worth_11 : decode cX6_worth 11 = .ok (.if_icmp .le 6, 3) := by decide +kernel
theorem dX6_worth_14 : decode cX6_worth 14 = .ok (.bipush (-2), 2) := by decide +kernel
theorem dX6_worth_16 : decode cX6_worth 16 = .ok (.ireturn, 1) := by decide +kernel
theorem dX6_worth_17 : decode cX6_worth 17 = .ok (.aload_n 0, 1) := by decide +kernel
theorem dX6_worth_18 : decode cX6_worth 18 = .ok (.getfield 10, 3) := by decide +kernel
theorem dX6_worth_21 : decode cX6_worth 21 = .ok (.bipush 7, 2) := by decide +kernel
theorem dX6_worth_23 : decode cX6_worth 23 = .ok (.invokevirtual 162, 3) := by decide +kernel
theorem dX6_worth_26 : decode cX6_worth 26 = .ok (.istore_n 2, 1) := by decide +kernel
theorem dX6_worth_27 : decode cX6_worth 27 = .ok (.iload_n 2, 1) := by decide +kernel
theorem dX6_worth_28 : decode cX6_worth 28 = .ok (.iload_n 1, 1) := by decide +kernel
theorem dX6_worth_29 : decode cX6_worth 29 = .ok (.iadd, 1) := by decide +kernel
theorem dX6_worth_30 : decode cX6_worth 30 = .ok (.ifCond .lt 12, 3) := by decide +kernel
theorem dX6_worth_33 : decode cX6_worth 33 = .ok (.iload_n 2, 1) := by decide +kernel
theorem dX6_worth_34 : decode cX6_worth 34 = .ok (.iload_n 1, 1) := by decide +kernel
theorem dX6_worth_35 : decode cX6_worth 35 = .ok (.iadd, 1) := by decide +kernel
theorem dX6_worth_36 : decode cX6_worth 36 = .ok (.sipush 200, 3) := by decide +kernel
theorem dX6_worth_39 : decode cX6_worth 39 = .ok (.if_icmp .le 6, 3) := by decide +kernel
theorem dX6_worth_42 : decode cX6_worth 42 = .ok (.bipush (-2), 2) := by decide +kernel
theorem dX6_worth_44 : decode cX6_worth 44 = .ok (.ireturn, 1) := by decide +kernel
theorem dX6_worth_45 : decode cX6_worth 45 = .ok (.aload_n 0, 1) := by decide +kernel
theorem dX6_worth_46 : decode cX6_worth 46 = .ok (.getfield 28, 3) := by decide +kernel
theorem dX6_worth_49 : decode cX6_worth 49 = .ok (.invokevirtual 179, 3) := by decide +kernel
theorem dX6_worth_52 : decode cX6_worth 52 = .ok (.aload_n 0, 1) := by decide +kernel
theorem dX6_worth_53 : decode cX6_worth 53 = .ok (.getfield 28, 3) := by decide +kernel
theorem dX6_worth_56 : decode cX6_worth 56 = .ok (.iconst 0, 1) := by decide +kernel
theorem dX6_worth_57 : decode cX6_worth 57 = .ok (.iload_n 2, 1) := by decide +kernel
theorem dX6_worth_58 : decode cX6_worth 58 = .ok (.invokevirtual 182, 3) := by decide +kernel
theorem dX6_worth_61 : decode cX6_worth 61 = .ok (.istore_n 3, 1) := by decide +kernel
theorem dX6_worth_62 : decode cX6_worth 62 = .ok (.aload_n 0, 1) := by decide +kernel
theorem dX6_worth_63 : decode cX6_worth 63 = .ok (.getfield 28, 3) := by decide +kernel
theorem dX6_worth_66 : decode cX6_worth 66 = .ok (.iconst 0, 1) := by decide +kernel
theorem dX6_worth_67 : decode cX6_worth 67 = .ok (.iload_n 2, 1) := by decide +kernel
theorem dX6_worth_68 : decode cX6_worth 68 = .ok (.iload_n 1, 1) := by decide +kernel
theorem dX6_worth_69 : decode cX6_worth 69 = .ok (.iadd, 1) := by decide +kernel
theorem dX6_worth_70 : decode cX6_worth 70 = .ok (.invokevirtual 182, 3) := by decide +kernel
theorem dX6_worth_73 : decode cX6_worth 73 = .ok (.istore 4, 2) := by decide +kernel
theorem dX6_worth_75 : decode cX6_worth 75 = .ok (.iload_n 3, 1) := by decide +kernel
theorem dX6_worth_76 : decode cX6_worth 76 = .ok (.ldc 185, 2) := by decide +kernel
theorem dX6_worth_78 : decode cX6_worth 78 = .ok (.if_icmp .eq 10, 3) := by decide +kernel
theorem dX6_worth_81 : decode cX6_worth 81 = .ok (.iload 4, 2) := by decide +kernel
theorem dX6_worth_83 : decode cX6_worth 83 = .ok (.ldc 185, 2) := by decide +kernel
theorem dX6_worth_85 : decode cX6_worth 85 = .ok (.if_icmp .ne 6, 3) := by decide +kernel
theorem dX6_worth_88 : decode cX6_worth 88 = .ok (.bipush (-6), 2) := by decide +kernel
theorem dX6_worth_90 : decode cX6_worth 90 = .ok (.ireturn, 1) := by decide +kernel
theorem dX6_worth_91 : decode cX6_worth 91 = .ok (.iload 4, 2) := by decide +kernel
theorem dX6_worth_93 : decode cX6_worth 93 = .ok (.iload_n 3, 1) := by decide +kernel
theorem dX6_worth_94 : decode cX6_worth 94 = .ok (.isub, 1) := by decide +kernel
theorem dX6_worth_95 : decode cX6_worth 95 = .ok (.ldc 186, 2) := by decide +kernel
theorem dX6_worth_97 : decode cX6_worth 97 = .ok (.iadd, 1) := by decide +kernel
theorem dX6_worth_98 : decode cX6_worth 98 = .ok (.ireturn, 1) := by decide +kernel
theorem dX6_highest_0 : decode cX6_highest 0 = .ok (.aload_n 0, 1) := by decide +kernel
theorem dX6_highest_1 : decode cX6_highest 1 = .ok (.getfield 10, 3) := by decide +kernel
theorem dX6_highest_4 : decode cX6_highest 4 = .ok (.invokevirtual 194, 3) := by decide +kernel
theorem dX6_highest_7 : decode cX6_highest 7 = .ok (.ireturn, 1) := by decide +kernel
theorem dX6_undo_0 : decode cX6_undo 0 = .ok (.aload_n 0, 1) := by decide +kernel
theorem dX6_undo_1 : decode cX6_undo 1 = .ok (.getfield 51, 3) := by decide +kernel
theorem dX6_undo_4 : decode cX6_undo 4 = .ok (.aload_n 0, 1) := by decide +kernel
theorem dX6_undo_5 : decode cX6_undo 5 = .ok (.getfield 10, 3) := by decide +kernel
theorem dX6_undo_8 : decode cX6_undo 8 = .ok (.invokevirtual 221, 3) := by decide +kernel
theorem dX6_undo_11 : decode cX6_undo 11 = .ok (.ireturn, 1) := by decide +kernel
theorem dX6_adoptBest_0 : decode cX6_adoptBest 0 = .ok (.aload_n 0, 1) := by decide +kernel
theorem dX6_adoptBest_1 : decode cX6_adoptBest 1 = .ok (.getfield 28, 3) := by decide +kernel
theorem dX6_adoptBest_4 : decode cX6_adoptBest 4 = .ok (.invokevirtual 179, 3) := by decide +kernel
theorem dX6_adoptBest_7 : decode cX6_adoptBest 7 = .ok (.aload_n 0, 1) := by decide +kernel
theorem dX6_adoptBest_8 : decode cX6_adoptBest 8 = .ok (.getfield 28, 3) := by decide +kernel
theorem dX6_adoptBest_11 : decode cX6_adoptBest 11 = .ok (.getfield 187, 3) := by decide +kernel
theorem dX6_adoptBest_14 : decode cX6_adoptBest 14 = .ok (.ifCond .ne 6, 3) := by decide +kernel
theorem dX6_adoptBest_17 : decode cX6_adoptBest 17 = .ok (.bipush (-5), 2) := by decide +kernel
theorem dX6_adoptBest_19 : decode cX6_adoptBest 19 = .ok (.ireturn, 1) := by decide +kernel
theorem dX6_adoptBest_20 : decode cX6_adoptBest 20 = .ok (.iconst 0, 1) := by decide +kernel
theorem dX6_adoptBest_21 : decode cX6_adoptBest 21 = .ok (.istore_n 1, 1) := by decide +kernel
theorem dX6_adoptBest_22 : decode cX6_adoptBest 22 = .ok (.iconst 0, 1) := by decide +kernel
theorem dX6_adoptBest_23 : decode cX6_adoptBest 23 = .ok (.istore_n 2, 1) := by decide +kernel
theorem dX6_adoptBest_24 : decode cX6_adoptBest 24 = .ok (.iload_n 2, 1) := by decide +kernel
theorem dX6_adoptBest_25 : decode cX6_adoptBest 25 = .ok (.bipush 24, 2) := by decide +kernel
theorem dX6_adoptBest_27 : decode cX6_adoptBest 27 = .ok (.if_icmp .ge 50, 3) := by decide +kernel
theorem dX6_adoptBest_30 : decode cX6_adoptBest 30 = .ok (.aload_n 0, 1) := by decide +kernel
theorem dX6_adoptBest_31 : decode cX6_adoptBest 31 = .ok (.getfield 10, 3) := by decide +kernel
theorem dX6_adoptBest_34 : decode cX6_adoptBest 34 = .ok (.iload_n 2, 1) := by decide +kernel
theorem dX6_adoptBest_35 : decode cX6_adoptBest 35 = .ok (.invokevirtual 108, 3) := by decide +kernel
theorem dX6_adoptBest_38 : decode cX6_adoptBest 38 = .ok (.aload_n 0, 1) := by decide +kernel
theorem dX6_adoptBest_39 : decode cX6_adoptBest 39 = .ok (.getfield 28, 3) := by decide +kernel
theorem dX6_adoptBest_42 : decode cX6_adoptBest 42 = .ok (.getfield 191, 3) := by decide +kernel
theorem dX6_adoptBest_45 : decode cX6_adoptBest 45 = .ok (.iload_n 2, 1) := by decide +kernel
theorem dX6_adoptBest_46 : decode cX6_adoptBest 46 = .ok (.iaload, 1) := by decide +kernel
theorem dX6_adoptBest_47 : decode cX6_adoptBest 47 = .ok (.if_icmp .eq 24, 3) := by decide +kernel
theorem dX6_adoptBest_50 : decode cX6_adoptBest 50 = .ok (.iinc 1 1, 3) := by decide +kernel
theorem dX6_adoptBest_53 : decode cX6_adoptBest 53 = .ok (.aload_n 0, 1) := by decide +kernel
theorem dX6_adoptBest_54 : decode cX6_adoptBest 54 = .ok (.getfield 10, 3) := by decide +kernel
theorem dX6_adoptBest_57 : decode cX6_adoptBest 57 = .ok (.iload_n 2, 1) := by decide +kernel
theorem dX6_adoptBest_58 : decode cX6_adoptBest 58 = .ok (.aload_n 0, 1) := by decide +kernel
theorem dX6_adoptBest_59 : decode cX6_adoptBest 59 = .ok (.getfield 28, 3) := by decide +kernel
theorem dX6_adoptBest_62 : decode cX6_adoptBest 62 = .ok (.getfield 191, 3) := by decide +kernel
theorem dX6_adoptBest_65 : decode cX6_adoptBest 65 = .ok (.iload_n 2, 1) := by decide +kernel
theorem dX6_adoptBest_66 : decode cX6_adoptBest 66 = .ok (.iaload, 1) := by decide +kernel
theorem dX6_adoptBest_67 : decode cX6_adoptBest 67 = .ok (.invokevirtual 81, 3) := by decide +kernel
theorem dX6_adoptBest_70 : decode cX6_adoptBest 70 = .ok (.pop, 1) := by decide +kernel
theorem dX6_adoptBest_71 : decode cX6_adoptBest 71 = .ok (.iinc 2 1, 3) := by decide +kernel
theorem dX6_adoptBest_74 : decode cX6_adoptBest 74 = .ok (.goto (-50), 3) := by decide +kernel
theorem dX6_adoptBest_77 : decode cX6_adoptBest 77 = .ok (.iload_n 1, 1) := by decide +kernel
theorem dX6_adoptBest_78 : decode cX6_adoptBest 78 = .ok (.ireturn, 1) := by decide +kernel
theorem dX6_moneyOfDay_0 : decode cX6_moneyOfDay 0 = .ok (.aload_n 0, 1) := by decide +kernel
theorem dX6_moneyOfDay_1 : decode cX6_moneyOfDay 1 = .ok (.getfield 21, 3) := by decide +kernel
theorem dX6_moneyOfDay_4 : decode cX6_moneyOfDay 4 = .ok (.getfield 127, 3) := by decide +kernel
theorem dX6_moneyOfDay_7 : decode cX6_moneyOfDay 7 = .ok (.invokestatic 149, 3) := by decide +kernel
theorem dX6_moneyOfDay_10 : decode cX6_moneyOfDay 10 = .ok (.ldc 186, 2) := by decide +kernel
theorem dX6_moneyOfDay_12 : decode cX6_moneyOfDay 12 = .ok (.iadd, 1) := by decide +kernel
theorem dX6_moneyOfDay_13 : decode cX6_moneyOfDay 13 = .ok (.ireturn, 1) := by decide +kernel
theorem dX6_isHour_0 : decode cX6_isHour 0 = .ok (.iload_n 0, 1) := by decide +kernel
theorem dX6_isHour_1 : decode cX6_isHour 1 = .ok (.ifCond .lt 13, 3) := by decide +kernel
theorem dX6_isHour_4 : decode cX6_isHour 4 = .ok (.iload_n 0, 1) := by decide +kernel
theorem dX6_isHour_5 : decode cX6_isHour 5 = .ok (.bipush 24, 2) := by decide +kernel
theorem dX6_isHour_7 : decode cX6_isHour 7 = .ok (.if_icmp .ge 7, 3) := by decide +kernel
theorem dX6_isHour_10 : decode cX6_isHour 10 = .ok (.iconst 1, 1) := by decide +kernel
theorem dX6_isHour_11 : decode cX6_isHour 11 = .ok (.goto 4, 3) := by decide +kernel
theorem dX6_isHour_14 : decode cX6_isHour 14 = .ok (.iconst 0, 1) := by decide +kernel
theorem dX6_isHour_15 : decode cX6_isHour 15 = .ok (.ireturn, 1) := by decide +kernel
theorem dX6_sumOf_0 : decode cX6_sumOf 0 = .ok (.iconst 0, 1) := by decide +kernel
theorem dX6_sumOf_1 : decode cX6_sumOf 1 = .ok (.istore_n 1, 1) := by decide +kernel
theorem dX6_sumOf_2 : decode cX6_sumOf 2 = .ok (.iconst 0, 1) := by decide +kernel
theorem dX6_sumOf_3 : decode cX6_sumOf 3 = .ok (.istore_n 2, 1) := by decide +kernel
theorem dX6_sumOf_4 : decode cX6_sumOf 4 = .ok (.iload_n 2, 1) := by decide +kernel
theorem dX6_sumOf_5 : decode cX6_sumOf 5 = .ok (.aload_n 0, 1) := by decide +kernel
theorem dX6_sumOf_6 : decode cX6_sumOf 6 = .ok (.arraylength, 1) := by decide +kernel
theorem dX6_sumOf_7 : decode cX6_sumOf 7 = .ok (.if_icmp .ge 15, 3) := by decide +kernel
theorem dX6_sumOf_10 : decode cX6_sumOf 10 = .ok (.iload_n 1, 1) := by decide +kernel
theorem dX6_sumOf_11 : decode cX6_sumOf 11 = .ok (.aload_n 0, 1) := by decide +kernel
theorem dX6_sumOf_12 : decode cX6_sumOf 12 = .ok (.iload_n 2, 1) := by decide +kernel
theorem dX6_sumOf_13 : decode cX6_sumOf 13 = .ok (.iaload, 1) := by decide +kernel
theorem dX6_sumOf_14 : decode cX6_sumOf 14 = .ok (.iadd, 1) := by decide +kernel
theorem dX6_sumOf_15 : decode cX6_sumOf 15 = .ok (.istore_n 1, 1) := by decide +kernel
theorem dX6_sumOf_16 : decode cX6_sumOf 16 = .ok (.iinc 2 1, 3) := by decide +kernel
theorem dX6_sumOf_19 : decode cX6_sumOf 19 = .ok (.goto (-15), 3) := by decide +kernel
theorem dX6_sumOf_22 : decode cX6_sumOf 22 = .ok (.iload_n 1, 1) := by decide +kernel
theorem dX6_sumOf_23 : decode cX6_sumOf 23 = .ok (.ireturn, 1) := by decide +kernel
theorem dX6_copyRow_0 : decode cX6_copyRow 0 = .ok (.aload_n 0, 1) := by decide +kernel
theorem dX6_copyRow_1 : decode cX6_copyRow 1 = .ok (.iconst 0, 1) := by decide +kernel
theorem dX6_copyRow_2 : decode cX6_copyRow 2 = .ok (.aload_n 1, 1) := by decide +kernel
theorem dX6_copyRow_3 : decode cX6_copyRow 3 = .ok (.iconst 0, 1) := by decide +kernel
theorem dX6_copyRow_4 : decode cX6_copyRow 4 = .ok (.aload_n 0, 1) := by decide +kernel
theorem dX6_copyRow_5 : decode cX6_copyRow 5 = .ok (.arraylength, 1) := by decide +kernel
theorem dX6_copyRow_6 : decode cX6_copyRow 6 = .ok (.aload_n 1, 1) := by decide +kernel
theorem dX6_copyRow_7 : decode cX6_copyRow 7 = .ok (.arraylength, 1) := by decide +kernel
