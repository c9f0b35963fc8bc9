theorem dX2_removeContract_49 : decode cX2_removeContract 49 = .ok (.bipush 114, 2) := by decide +kernel
theorem dX2_removeContract_51 : decode cX2_removeContract 51 = .ok (.dup2, 1) := by decide +kernel
theorem dX2_removeContract_52 : decode cX2_removeContract 52 = .ok (.iaload, 1) := by decide +kernel
theorem dX2_removeContract_53 : decode cX2_removeContract 53 = .ok (.iconst 1, 1) := by decide +kernel
theorem dX2_removeContract_54 : decode cX2_removeContract 54 = .ok (.isub, 1) := by decide +kernel
theorem dX2_removeContract_55 : decode cX2_removeContract 55 = .ok (.iastore, 1) := by decide +kernel
theorem dX2_removeContract_56 : decode cX2_removeContract 56 = .ok (.aload_n 0, 1) := by decide +kernel
theorem dX2_removeContract_57 : decode cX2_removeContract 57 = .ok (.dup, 1) := by decide +kernel
theorem dX2_removeContract_58 : decode cX2_removeContract 58 = .ok (.getfield 15, 3) := by decide +kernel
theorem dX2_removeContract_61 : decode cX2_removeContract 61 = .ok (.iconst 1, 1) := by decide +kernel
theorem dX2_removeContract_62 : decode cX2_removeContract 62 = .ok (.iadd, 1) := by decide +kernel
theorem dX2_removeContract_63 : decode cX2_removeContract 63 = .ok (.putfield 15, 3) := by decide +kernel
theorem dX2_removeContract_66 : decode cX2_removeContract 66 = .ok (.aload_n 0, 1) := by decide +kernel
theorem dX2_removeContract_67 : decode cX2_removeContract 67 = .ok (.invokevirtual 26, 3) := by decide +kernel
theorem dX2_removeContract_70 : decode cX2_removeContract 70 = .ok (.ireturn, 1) := by decide +kernel
theorem dX2_lossOf_0 : decode cX2_lossOf 0 = .ok (.iload_n 1, 1) := by decide +kernel
theorem dX2_lossOf_1 : decode cX2_lossOf 1 = .ok (.aload_n 0, 1) := by decide +kernel
theorem dX2_lossOf_2 : decode cX2_lossOf 2 = .ok (.getfield 11, 3) := by decide +kernel
theorem dX2_lossOf_5 : decode cX2_lossOf 5 = .ok (.iconst 2, 1) := by decide +kernel
theorem dX2_lossOf_6 : decode cX2_lossOf 6 = .ok (.iaload, 1) := by decide +kernel
theorem dX2_lossOf_7 : decode cX2_lossOf 7 = .ok (.imul, 1) := by decide +kernel
theorem dX2_lossOf_8 : decode cX2_lossOf 8 = .ok (.bipush 99, 2) := by decide +kernel
theorem dX2_lossOf_10 : decode cX2_lossOf 10 = .ok (.iadd, 1) := by decide +kernel
theorem dX2_lossOf_11 : decode cX2_lossOf 11 = .ok (.bipush 100, 2) := by decide +kernel
theorem dX2_lossOf_13 : decode cX2_lossOf 13 = .ok (.idiv, 1) := by decide +kernel
theorem dX2_lossOf_14 : decode cX2_lossOf 14 = .ok (.ireturn, 1) := by decide +kernel
theorem dX2_filledLevel_0 : decode cX2_filledLevel 0 = .ok (.iload_n 2, 1) := by decide +kernel
theorem dX2_filledLevel_1 : decode cX2_filledLevel 1 = .ok (.iload_n 3, 1) := by decide +kernel
theorem dX2_filledLevel_2 : decode cX2_filledLevel 2 = .ok (.iadd, 1) := by decide +kernel
theorem dX2_filledLevel_3 : decode cX2_filledLevel 3 = .ok (.aload_n 0, 1) := by decide +kernel
theorem dX2_filledLevel_4 : decode cX2_filledLevel 4 = .ok (.iload_n 3, 1) := by decide +kernel
theorem dX2_filledLevel_5 : decode cX2_filledLevel 5 = .ok (.invokevirtual 58, 3) := by decide +kernel
theorem dX2_filledLevel_8 : decode cX2_filledLevel 8 = .ok (.isub, 1) := by decide +kernel
theorem dX2_filledLevel_9 : decode cX2_filledLevel 9 = .ok (.aload_n 0, 1) := by decide +kernel
theorem dX2_filledLevel_10 : decode cX2_filledLevel 10 = .ok (.iload_n 1, 1) := by decide +kernel
theorem dX2_filledLevel_11 : decode cX2_filledLevel 11 = .ok (.invokevirtual 30, 3) := by decide +kernel
theorem dX2_filledLevel_14 : decode cX2_filledLevel 14 = .ok (.iadd, 1) := by decide +kernel
theorem dX2_filledLevel_15 : decode cX2_filledLevel 15 = .ok (.ireturn, 1) := by decide +kernel
theorem dX2_wantedBy_0 : decode cX2_wantedBy 0 = .ok (.aload_n 0, 1) := by decide +kernel
theorem dX2_wantedBy_1 : decode cX2_wantedBy 1 = .ok (.getfield 11, 3) := by decide +kernel
theorem dX2_wantedBy_4 : decode cX2_wantedBy 4 = .ok (.iconst 4, 1) := by decide +kernel
theorem dX2_wantedBy_5 : decode cX2_wantedBy 5 = .ok (.iaload, 1) := by decide +kernel
theorem dX2_wantedBy_6 : decode cX2_wantedBy 6 = .ok (.iload_n 1, 1) := by decide +kernel
theorem dX2_wantedBy_7 : decode cX2_wantedBy 7 = .ok (.invokestatic 61, 3) := by decide +kernel
theorem dX2_wantedBy_10 : decode cX2_wantedBy 10 = .ok (.ireturn, 1) := by decide +kernel
theorem dX2_letDownOf_0 : decode cX2_letDownOf 0 = .ok (.iconst 0, 1) := by decide +kernel
theorem dX2_letDownOf_1 : decode cX2_letDownOf 1 = .ok (.iload_n 2, 1) := by decide +kernel
theorem dX2_letDownOf_2 : decode cX2_letDownOf 2 = .ok (.iload_n 1, 1) := by decide +kernel
theorem dX2_letDownOf_3 : decode cX2_letDownOf 3 = .ok (.aload_n 0, 1) := by decide +kernel
theorem dX2_letDownOf_4 : decode cX2_letDownOf 4 = .ok (.getfield 11, 3) := by decide +kernel
theorem dX2_letDownOf_7 : decode cX2_letDownOf 7 = .ok (.iconst 5, 1) := by decide +kernel
theorem dX2_letDownOf_8 : decode cX2_letDownOf 8 = .ok (.iaload, 1) := by decide +kernel
theorem dX2_letDownOf_9 : decode cX2_letDownOf 9 = .ok (.isub, 1) := by decide +kernel
theorem dX2_letDownOf_10 : decode cX2_letDownOf 10 = .ok (.invokestatic 66, 3) := by decide +kernel
theorem dX2_letDownOf_13 : decode cX2_letDownOf 13 = .ok (.invokestatic 61, 3) := by decide +kernel
theorem dX2_letDownOf_16 : decode cX2_letDownOf 16 = .ok (.ireturn, 1) := by decide +kernel
theorem dX2_spilledOf_0 : decode cX2_spilledOf 0 = .ok (.iconst 0, 1) := by decide +kernel
theorem dX2_spilledOf_1 : decode cX2_spilledOf 1 = .ok (.iload_n 1, 1) := by decide +kernel
theorem dX2_spilledOf_2 : decode cX2_spilledOf 2 = .ok (.aload_n 0, 1) := by decide +kernel
theorem dX2_spilledOf_3 : decode cX2_spilledOf 3 = .ok (.getfield 11, 3) := by decide +kernel
theorem dX2_spilledOf_6 : decode cX2_spilledOf 6 = .ok (.bipush 6, 2) := by decide +kernel
theorem dX2_spilledOf_8 : decode cX2_spilledOf 8 = .ok (.iaload, 1) := by decide +kernel
theorem dX2_spilledOf_9 : decode cX2_spilledOf 9 = .ok (.isub, 1) := by decide +kernel
theorem dX2_spilledOf_10 : decode cX2_spilledOf 10 = .ok (.invokestatic 61, 3) := by decide +kernel
theorem dX2_spilledOf_13 : decode cX2_spilledOf 13 = .ok (.ireturn, 1) := by decide +kernel
theorem dX2_levelBehind_0 : decode cX2_levelBehind 0 = .ok (.aload_n 0, 1) := by decide +kernel
theorem dX2_levelBehind_1 : decode cX2_levelBehind 1 = .ok (.iload_n 1, 1) := by decide +kernel
theorem dX2_levelBehind_2 : decode cX2_levelBehind 2 = .ok (.iload_n 2, 1) := by decide +kernel
theorem dX2_levelBehind_3 : decode cX2_levelBehind 3 = .ok (.iload_n 3, 1) := by decide +kernel
theorem dX2_levelBehind_4 : decode cX2_levelBehind 4 = .ok (.invokestatic 69, 3) := by decide +kernel
theorem dX2_levelBehind_7 : decode cX2_levelBehind 7 = .ok (.invokevirtual 72, 3) := by decide +kernel
theorem dX2_levelBehind_10 : decode cX2_levelBehind 10 = .ok (.istore 4, 2) := by decide +kernel
theorem dX2_levelBehind_12 : decode cX2_levelBehind 12 = .ok (.iload 4, 2) := by decide +kernel
theorem dX2_levelBehind_14 : decode cX2_levelBehind 14 = .ok (.aload_n 0, 1) := by decide +kernel
theorem dX2_levelBehind_15 : decode cX2_levelBehind 15 = .ok (.iload 4, 2) := by decide +kernel
theorem dX2_levelBehind_17 : decode cX2_levelBehind 17 = .ok (.aload_n 0, 1) := by decide +kernel
theorem dX2_levelBehind_18 : decode cX2_levelBehind 18 = .ok (.iload_n 3, 1) := by decide +kernel
theorem dX2_levelBehind_19 : decode cX2_levelBehind 19 = .ok (.invokevirtual 76, 3) := by decide +kernel
theorem dX2_levelBehind_22 : decode cX2_levelBehind 22 = .ok (.invokevirtual 79, 3) := by decide +kernel
theorem dX2_levelBehind_25 : decode cX2_levelBehind 25 = .ok (.isub, 1) := by decide +kernel
theorem dX2_levelBehind_26 : decode cX2_levelBehind 26 = .ok (.istore 5, 2) := by decide +kernel
theorem dX2_levelBehind_28 : decode cX2_levelBehind 28 = .ok (.iload 5, 2) := by decide +kernel
theorem dX2_levelBehind_30 : decode cX2_levelBehind 30 = .ok (.aload_n 0, 1) := by decide +kernel
theorem dX2_levelBehind_31 : decode cX2_levelBehind 31 = .ok (.iload 5, 2) := by decide +kernel
theorem dX2_levelBehind_33 : decode cX2_levelBehind 33 = .ok (.invokevirtual 82, 3) := by decide +kernel
theorem dX2_levelBehind_36 : decode cX2_levelBehind 36 = .ok (.isub, 1) := by decide +kernel
theorem dX2_levelBehind_37 : decode cX2_levelBehind 37 = .ok (.ireturn, 1) := by decide +kernel
theorem dX2_earnedBy_0 : decode cX2_earnedBy 0 = .ok (.iload_n 2, 1) := by decide +kernel
theorem dX2_earnedBy_1 : decode cX2_earnedBy 1 = .ok (.aload_n 0, 1) := by decide +kernel
theorem dX2_earnedBy_2 : decode cX2_earnedBy 2 = .ok (.iload_n 1, 1) := by decide +kernel
theorem dX2_earnedBy_3 : decode cX2_earnedBy 3 = .ok (.invokevirtual 85, 3) := by decide +kernel
theorem dX2_earnedBy_6 : decode cX2_earnedBy 6 = .ok (.imul, 1) := by decide +kernel
theorem dX2_earnedBy_7 : decode cX2_earnedBy 7 = .ok (.aload_n 0, 1) := by decide +kernel
theorem dX2_earnedBy_8 : decode cX2_earnedBy 8 = .ok (.getfield 11, 3) := by decide +kernel
theorem dX2_earnedBy_11 : decode cX2_earnedBy 11 = .ok (.iconst 3, 1) := by decide +kernel
theorem dX2_earnedBy_12 : decode cX2_earnedBy 12 = .ok (.iaload, 1) := by decide +kernel
theorem dX2_earnedBy_13 : decode cX2_earnedBy 13 = .ok (.imul, 1) := by decide +kernel
theorem dX2_earnedBy_14 : decode cX2_earnedBy 14 = .ok (.bipush 100, 2) := by decide +kernel
theorem dX2_earnedBy_16 : decode cX2_earnedBy 16 = .ok (.idiv, 1) := by decide +kernel
theorem dX2_earnedBy_17 : decode cX2_earnedBy 17 = .ok (.istore_n 3, 1) := by decide +kernel
theorem dX2_earnedBy_18 : decode cX2_earnedBy 18 = .ok (.iconst 0, 1) := by decide +kernel
theorem dX2_earnedBy_19 : decode cX2_earnedBy 19 = .ok (.istore 4, 2) := by decide +kernel
theorem dX2_earnedBy_21 : decode cX2_earnedBy 21 = .ok (.iload 4, 2) := by decide +kernel
theorem dX2_earnedBy_23 : decode cX2_earnedBy 23 = .ok (.aload_n 0, 1) := by decide +kernel
theorem dX2_earnedBy_24 : decode cX2_earnedBy 24 = .ok (.invokevirtual 26, 3) := by decide +kernel
theorem dX2_earnedBy_27 : decode cX2_earnedBy 27 = .ok (.if_icmp .ge 64, 3) := by decide +kernel
theorem dX2_earnedBy_30 : decode cX2_earnedBy 30 = .ok (.aload_n 0, 1) := by decide +kernel
theorem dX2_earnedBy_31 : decode cX2_earnedBy 31 = .ok (.iload 4, 2) := by decide +kernel
theorem dX2_earnedBy_33 : decode cX2_earnedBy 33 = .ok (.iconst 0, 1) := by decide +kernel
theorem dX2_earnedBy_34 : decode cX2_earnedBy 34 = .ok (.invokevirtual 88, 3) := by decide +kernel
theorem dX2_earnedBy_37 : decode cX2_earnedBy 37 = .ok (.iload_n 1, 1) := by decide +kernel
theorem dX2_earnedBy_38 : decode cX2_earnedBy 38 = .ok (.if_icmp .ne 47, 3) := by decide +kernel
theorem dX2_earnedBy_41 : decode cX2_earnedBy 41 = .ok (.iload_n 2, 1) := by decide +kernel
theorem dX2_earnedBy_42 : decode cX2_earnedBy 42 = .ok (.aload_n 0, 1) := by decide +kernel
theorem dX2_earnedBy_43 : decode cX2_earnedBy 43 = .ok (.iload 4, 2) := by decide +kernel
theorem dX2_earnedBy_45 : decode cX2_earnedBy 45 = .ok (.iconst 1, 1) := by decide +kernel
theorem dX2_earnedBy_46 : decode cX2_earnedBy 46 = .ok (.invokevirtual 88, 3) := by decide +kernel
theorem dX2_earnedBy_49 : decode cX2_earnedBy 49 = .ok (.if_icmp .lt 7, 3) := by decide +kernel
theorem dX2_earnedBy_52 : decode cX2_earnedBy 52 = .ok (.iconst 1, 1) := by decide +kernel
theorem dX2_earnedBy_53 : decode cX2_earnedBy 53 = .ok (.goto 4, 3) := by decide +kernel
theorem dX2_earnedBy_56 : decode cX2_earnedBy 56 = .ok (.iconst 0, 1) := by decide +kernel
theorem dX2_earnedBy_57 : decode cX2_earnedBy 57 = .ok (.istore 5, 2) := by decide +kernel
theorem dX2_earnedBy_59 : decode cX2_earnedBy 59 = .ok (.iload_n 3, 1) := by decide +kernel
theorem dX2_earnedBy_60 : decode cX2_earnedBy 60 = .ok (.iload 5, 2) := by decide +kernel
theorem dX2_earnedBy_62 : decode cX2_earnedBy 62 = .ok (.ifCond .eq 13, 3) := by decide +kernel
theorem dX2_earnedBy_65 : decode cX2_earnedBy 65 = .ok (.aload_n 0, 1) := by decide +kernel
theorem dX2_earnedBy_66 : decode cX2_earnedBy 66 = .ok (.iload 4, 2) := by decide +kernel
theorem dX2_earnedBy_68 : decode cX2_earnedBy 68 = .ok (.iconst 2, 1) := by decide +kernel
theorem dX2_earnedBy_69 : decode cX2_earnedBy 69 = .ok (.invokevirtual 88, 3) := by decide +kernel
theorem dX2_earnedBy_72 : decode cX2_earnedBy 72 = .ok (.goto 11, 3) := by decide +kernel
theorem dX2_earnedBy_75 : decode cX2_earnedBy 75 = .ok (.aload_n 0, 1) := by decide +kernel
theorem dX2_earnedBy_76 : decode cX2_earnedBy 76 = .ok (.iload 4, 2) := by decide +kernel
theorem dX2_earnedBy_78 : decode cX2_earnedBy 78 = .ok (.iconst 3, 1) := by decide +kernel
theorem dX2_earnedBy_79 : decode cX2_earnedBy 79 = .ok (.invokevirtual 88, 3) := by decide +kernel
theorem dX2_earnedBy_82 : decode cX2_earnedBy 82 = .ok (.ineg, 1) := by decide +kernel
theorem dX2_earnedBy_83 : decode cX2_earnedBy 83 = .ok (.iadd, 1) := by decide +kernel
theorem dX2_earnedBy_84 : decode cX2_earnedBy 84 = .ok (.istore_n 3, 1) := by decide +kernel
theorem dX2_earnedBy_85 : decode cX2_earnedBy 85 = .ok (.iinc 4 1, 3) := by decide +kernel
theorem dX2_earnedBy_88 : decode cX2_earnedBy 88 = .ok (.goto (-67), 3) := by decide +kernel
theorem dX2_earnedBy_91 : decode cX2_earnedBy 91 = .ok (.iload_n 2, 1) := by decide +kernel
theorem dX2_earnedBy_92 : decode cX2_earnedBy 92 = .ok (.aload_n 0, 1) := by decide +kernel
theorem dX2_earnedBy_93 : decode cX2_earnedBy 93 = .ok (.getfield 11, 3) := by decide +kernel
theorem dX2_earnedBy_96 : decode cX2_earnedBy 96 = .ok (.iconst 4, 1) := by decide +kernel
theorem dX2_earnedBy_97 : decode cX2_earnedBy 97 = .ok (.iaload, 1) := by decide +kernel
theorem dX2_earnedBy_98 : decode cX2_earnedBy 98 = .ok (.if_icmp .ge 15, 3) := by decide +kernel
theorem dX2_earnedBy_101 : decode cX2_earnedBy 101 = .ok (.iload_n 3, 1) := by decide +kernel
theorem dX2_earnedBy_102 : decode cX2_earnedBy 102 = .ok (.aload_n 0, 1) := by decide +kernel
theorem dX2_earnedBy_103 : decode cX2_earnedBy 103 = .ok (.getfield 11, 3) := by decide +kernel
theorem dX2_earnedBy_106 : decode cX2_earnedBy 106 = .ok (.bipush 9, 2) := by decide +kernel
theorem dX2_earnedBy_108 : decode cX2_earnedBy 108 = .ok (.iaload, 1) := by decide +kernel
theorem dX2_earnedBy_109 : decode cX2_earnedBy 109 = .ok (.isub, 1) := by decide +kernel
theorem dX2_earnedBy_110 : decode cX2_earnedBy 110 = .ok (.goto 4, 3) := by decide +kernel
theorem dX2_earnedBy_113 : decode cX2_earnedBy 113 = .ok (.iload_n 3, 1) := by decide +kernel
theorem dX2_earnedBy_114 : decode cX2_earnedBy 114 = .ok (.ireturn, 1) := by decide +kernel
theorem dX2_missedIn_0 : decode cX2_missedIn 0 = .ok (.iconst 0, 1) := by decide +kernel
theorem dX2_missedIn_1 : decode cX2_missedIn 1 = .ok (.istore_n 3, 1) := by decide +kernel
theorem dX2_missedIn_2 : decode cX2_missedIn 2 = .ok (.iconst 0, 1) := by decide +kernel
theorem dX2_missedIn_3 : decode cX2_missedIn 3 = .ok (.istore 4, 2) := by decide +kernel
theorem dX2_missedIn_5 : decode cX2_missedIn 5 = .ok (.iload 4, 2) := by decide +kernel
theorem dX2_missedIn_7 : decode cX2_missedIn 7 = .ok (.aload_n 0, 1) := by decide +kernel
theorem dX2_missedIn_8 : decode cX2_missedIn 8 = .ok (.invokevirtual 26, 3) := by decide +kernel
theorem dX2_missedIn_11 : decode cX2_missedIn 11 = .ok (.if_icmp .ge 34, 3) := by decide +kernel
theorem dX2_missedIn_14 : decode cX2_missedIn 14 = .ok (.aload_n 0, 1) := by decide +kernel
theorem dX2_missedIn_15 : decode cX2_missedIn 15 = .ok (.iload 4, 2) := by decide +kernel
theorem dX2_missedIn_17 : decode cX2_missedIn 17 = .ok (.iconst 0, 1) := by decide +kernel
theorem dX2_missedIn_18 : decode cX2_missedIn 18 = .ok (.invokevirtual 88, 3) := by decide +kernel
theorem dX2_missedIn_21 : decode cX2_missedIn 21 = .ok (.iload_n 1, 1) := by decide +kernel
theorem dX2_missedIn_22 : decode cX2_missedIn 22 = .ok (.if_icmp .ne 17, 3) := by decide +kernel
theorem dX2_missedIn_25 : decode cX2_missedIn 25 = .ok (.iload_n 2, 1) := by decide +kernel
theorem dX2_missedIn_26 : decode cX2_missedIn 26 = .ok (.aload_n 0, 1) := by decide +kernel
theorem dX2_missedIn_27 : decode cX2_missedIn 27 = .ok (.iload 4, 2) := by decide +kernel
theorem dX2_missedIn_29 : decode cX2_missedIn 29 = .ok (.iconst 1, 1) := by decide +kernel
theorem dX2_missedIn_30 : decode cX2_missedIn 30 = .ok (.invokevirtual 88, 3) := by decide +kernel
theorem dX2_missedIn_33 : decode cX2_missedIn 33 = .ok (.if_icmp .ge 6, 3) := by decide +kernel
theorem dX2_missedIn_36 : decode cX2_missedIn 36 = .ok (.iinc 3 1, 3) := by decide +kernel
theorem dX2_missedIn_39 : decode cX2_missedIn 39 = .ok (.iinc 4 1, 3) := by decide +kernel
theorem dX2_missedIn_42 : decode cX2_missedIn 42 = .ok (.goto (-37), 3) := by decide +kernel
theorem dX2_missedIn_45 : decode cX2_missedIn 45 = .ok (.iload_n 3, 1) := by decide +kernel
theorem dX2_missedIn_46 : decode cX2_missedIn 46 = .ok (.ireturn, 1) := by decide +kernel
theorem dX2_highestInTheEnd_0 : decode cX2_highestInTheEnd 0 = .ok (.aload_n 0, 1) := by decide +kernel
theorem dX2_highestInTheEnd_1 : decode cX2_highestInTheEnd 1 = .ok (.getfield 11, 3) := by decide +kernel
theorem dX2_highestInTheEnd_4 : decode cX2_highestInTheEnd 4 = .ok (.bipush 7, 2) := by decide +kernel
theorem dX2_highestInTheEnd_6 : decode cX2_highestInTheEnd 6 = .ok (.iaload, 1) := by decide +kernel
theorem dX2_highestInTheEnd_7 : decode cX2_highestInTheEnd 7 = .ok (.istore_n 1, 1) := by decide +kernel
theorem dX2_highestInTheEnd_8 : decode cX2_highestInTheEnd 8 = .ok (.iconst 0, 1) := by decide +kernel
theorem dX2_highestInTheEnd_9 : decode cX2_highestInTheEnd 9 = .ok (.istore_n 2, 1) := by decide +kernel
theorem dX2_highestInTheEnd_10 : decode cX2_highestInTheEnd 10 = .ok (.iload_n 2, 1) := by decide +kernel
theorem dX2_highestInTheEnd_11 : decode cX2_highestInTheEnd 11 = .ok (.bipush 24, 2) := by decide +kernel
theorem dX2_highestInTheEnd_13 : decode cX2_highestInTheEnd 13 = .ok (.if_icmp .ge 23, 3) := by decide +kernel
theorem dX2_highestInTheEnd_16 : decode cX2_highestInTheEnd 16 = .ok (.aload_n 0, 1) := by decide +kernel
theorem dX2_highestInTheEnd_17 : decode cX2_highestInTheEnd 17 = .ok (.iload_n 2, 1) := by decide +kernel
theorem dX2_highestInTheEnd_18 : decode cX2_highestInTheEnd 18 = .ok (.iload_n 1, 1) := by decide +kernel
theorem dX2_highestInTheEnd_19 : decode cX2_highestInTheEnd 19 = .ok (.aload_n 0, 1) := by decide +kernel
theorem dX2_highestInTheEnd_20 : decode cX2_highestInTheEnd 20 = .ok (.getfield 11, 3) := by decide +kernel
theorem dX2_highestInTheEnd_23 : decode cX2_highestInTheEnd 23 = .ok (.iconst 0, 1) := by decide +kernel
theorem dX2_highestInTheEnd_24 : decode cX2_highestInTheEnd 24 = .ok (.iaload, 1) := by decide +kernel
theorem dX2_highestInTheEnd_25 : decode cX2_highestInTheEnd 25 = .ok (.ineg, 1) := by decide +kernel
theorem dX2_highestInTheEnd_26 : decode cX2_highestInTheEnd 26 = .ok (.invokevirtual 91, 3) := by decide +kernel
theorem dX2_highestInTheEnd_29 : decode cX2_highestInTheEnd 29 = .ok (.istore_n 1, 1) := by decide +kernel
theorem dX2_highestInTheEnd_30 : decode cX2_highestInTheEnd 30 = .ok (.iinc 2 1, 3) := by decide +kernel
theorem dX2_highestInTheEnd_33 : decode cX2_highestInTheEnd 33 = .ok (.goto (-23), 3) := by decide +kernel
theorem dX2_highestInTheEnd_36 : decode cX2_highestInTheEnd 36 = .ok (.iload_n 1, 1) := by decide +kernel
theorem dX2_highestInTheEnd_37 : decode cX2_highestInTheEnd 37 = .ok (.ireturn, 1) := by decide +kernel
theorem dX2_pumpedBy_0 : decode cX2_pumpedBy 0 = .ok (.iconst 0, 1) := by decide +kernel
theorem dX2_pumpedBy_1 : decode cX2_pumpedBy 1 = .ok (.iload_n 0, 1) := by decide +kernel
theorem dX2_pumpedBy_2 : decode cX2_pumpedBy 2 = .ok (.ineg, 1) := by decide +kernel
theorem dX2_pumpedBy_3 : decode cX2_pumpedBy 3 = .ok (.invokestatic 61, 3) := by decide +kernel
theorem dX2_pumpedBy_6 : decode cX2_pumpedBy 6 = .ok (.ireturn, 1) := by decide +kernel
theorem dX3_init_0 : decode cX3_init 0 = .ok (.aload_n 0, 1) := by decide +kernel
theorem dX3_init_1 : decode cX3_init 1 = .ok (.invokespecial 3, 3) := by decide +kernel
theorem dX3_init_4 : decode cX3_init 4 = .ok (.aload_n 0, 1) := by decide +kernel
theorem dX3_init_5 : decode cX3_init 5 = .ok (.bipush 80, 2) := by decide +kernel
theorem dX3_init_7 : decode cX3_init 7 = .ok (.newarray .char, 2) := by decide +kernel
theorem dX3_init_9 : decode cX3_init 9 = .ok (.putfield 9, 3) := by decide +kernel
theorem dX3_init_12 : decode cX3_init 12 = .ok (.aload_n 0, 1) := by decide +kernel
theorem dX3_init_13 : decode cX3_init 13 = .ok (.iconst 0, 1) := by decide +kernel
theorem dX3_init_14 : decode cX3_init 14 = .ok (.putfield 15, 3) := by decide +kernel
theorem dX3_init_17 : decode cX3_init 17 = .ok (.return_, 1) := by decide +kernel
theorem dX4_init_0 : decode cX4_init 0 = .ok (.aload_n 0, 1) := by decide +kernel
theorem dX4_init_1 : decode cX4_init 1 = .ok (.invokespecial 3, 3) := by decide +kernel
theorem dX4_init_4 : decode cX4_init 4 = .ok (.aload_n 0, 1) := by decide +kernel
theorem dX4_init_5 : decode cX4_init 5 = .ok (.iconst 0, 1) := by decide +kernel
theorem dX4_init_6 : decode cX4_init 6 = .ok (.putfield 9, 3) := by decide +kernel
theorem dX4_init_9 : decode cX4_init 9 = .ok (.aload_n 0, 1) := by decide +kernel
theorem dX4_init_10 : decode cX4_init 10 = .ok (.iconst 0, 1) := by decide +kernel
theorem dX4_init_11 : decode cX4_init 11 = .ok (.putfield 15, 3) := by decide +kernel
theorem dX4_init_14 : decode cX4_init 14 = .ok (.aload_n 0, 1) := by decide +kernel
theorem dX4_init_15 : decode cX4_init 15 = .ok (.iconst 0, 1) := by decide +kernel
theorem dX4_init_16 : decode cX4_init 16 = .ok (.putfield 18, 3) := by decide +kernel
theorem dX4_init_19 : decode cX4_init 19 = .ok (.aload_n 0, 1) := by decide +kernel
theorem dX4_init_20 : decode cX4_init 20 = .ok (.iconst 0, 1) := by decide +kernel
theorem dX4_init_21 : decode cX4_init 21 = .ok (.putfield 22, 3) := by decide +kernel
theorem dX4_init_24 : decode cX4_init 24 = .ok (.aload_n 0, 1) := by decide +kernel
theorem dX4_init_25 : decode cX4_init 25 = .ok (.iconst 0, 1) := by decide +kernel
theorem dX4_init_26 : decode cX4_init 26 = .ok (.putfield 25, 3) := by decide +kernel
theorem dX4_init_29 : decode cX4_init 29 = .ok (.aload_n 0, 1) := by decide +kernel
theorem dX4_init_30 : decode cX4_init 30 = .ok (.iconst 0, 1) := by decide +kernel
theorem dX4_init_31 : decode cX4_init 31 = .ok (.putfield 28, 3) := by decide +kernel
theorem dX4_init_34 : decode cX4_init 34 = .ok (.aload_n 0, 1) := by decide +kernel
theorem dX4_init_35 : decode cX4_init 35 = .ok (.iconst 0, 1) := by decide +kernel
theorem dX4_init_36 : decode cX4_init 36 = .ok (.putfield 31, 3) := by decide +kernel
theorem dX4_init_39 : decode cX4_init 39 = .ok (.aload_n 0, 1) := by decide +kernel
theorem dX4_init_40 : decode cX4_init 40 = .ok (.iconst 0, 1) := by decide +kernel
theorem dX4_init_41 : decode cX4_init 41 = .ok (.putfield 34, 3) := by decide +kernel
theorem dX4_init_44 : decode cX4_init 44 = .ok (.aload_n 0, 1) := by decide +kernel
theorem dX4_init_45 : decode cX4_init 45 = .ok (.iconst 0, 1) := by decide +kernel
theorem dX4_init_46 : decode cX4_init 46 = .ok (.putfield 37, 3) := by decide +kernel
theorem dX4_init_49 : decode cX4_init 49 = .ok (.aload_n 0, 1) := by decide +kernel
theorem dX4_init_50 : decode cX4_init 50 = .ok (.aload_n 1, 1) := by decide +kernel
theorem dX4_init_51 : decode cX4_init 51 = .ok (.putfield 40, 3) := by decide +kernel
theorem dX4_init_54 : decode cX4_init 54 = .ok (.return_, 1) := by decide +kernel
theorem dX5_init_0 : decode cX5_init 0 = .ok (.aload_n 0, 1) := by decide +kernel
theorem dX5_init_1 : decode cX5_init 1 = .ok (.invokespecial 3, 3) := by decide +kernel
theorem dX5_init_4 : decode cX5_init 4 = .ok (.aload_n 0, 1) := by decide +kernel
theorem dX5_init_5 : decode cX5_init 5 = .ok (.bipush 25, 2) := by decide +kernel
theorem dX5_init_7 : decode cX5_init 7 = .ok (.sipush 201, 3) := by decide +kernel
theorem dX5_init_10 : decode cX5_init 10 = .ok (.multianewarray 9 2, 4) := by decide +kernel
theorem dX5_init_14 : decode cX5_init 14 = .ok (.putfield 11, 3) := by decide +kernel
theorem dX5_init_17 : decode cX5_init 17 = .ok (.aload_n 0, 1) := by decide +kernel
theorem dX5_init_18 : decode cX5_init 18 = .ok (.bipush 31, 2) := by decide +kernel
theorem dX5_init_20 : decode cX5_init 20 = .ok (.newarray .int, 2) := by decide +kernel
theorem dX5_init_22 : decode cX5_init 22 = .ok (.putfield 16, 3) := by decide +kernel
theorem dX5_init_25 : decode cX5_init 25 = .ok (.aload_n 0, 1) := by decide +kernel
theorem dX5_init_26 : decode cX5_init 26 = .ok (.bipush 24, 2) := by decide +kernel
theorem dX5_init_28 : decode cX5_init 28 = .ok (.newarray .int, 2) := by decide +kernel
theorem dX5_init_30 : decode cX5_init 30 = .ok (.putfield 20, 3) := by decide +kernel
theorem dX5_init_33 : decode cX5_init 33 = .ok (.aload_n 0, 1) := by decide +kernel
theorem dX5_init_34 : decode cX5_init 34 = .ok (.iconst 0, 1) := by decide +kernel
theorem dX5_init_35 : decode cX5_init 35 = .ok (.putfield 23, 3) := by decide +kernel
theorem dX5_init_38 : decode cX5_init 38 = .ok (.aload_n 0, 1) := by decide +kernel
theorem dX5_init_39 : decode cX5_init 39 = .ok (.iconst (-1), 1) := by decide +kernel
theorem dX5_init_40 : decode cX5_init 40 = .ok (.putfield 27, 3) := by decide +kernel
theorem dX5_init_43 : decode cX5_init 43 = .ok (.aload_n 0, 1) := by decide +kernel
theorem dX5_init_44 : decode cX5_init 44 = .ok (.bipush 31, 2) := by decide +kernel
theorem dX5_init_46 : decode cX5_init 46 = .ok (.newarray .int, 2) := by decide +kernel
theorem dX5_init_48 : decode cX5_init 48 = .ok (.putfield 31, 3) := by decide +kernel
theorem dX5_init_51 : decode cX5_init 51 = .ok (.aload_n 0, 1) := by decide +kernel
theorem dX5_init_52 : decode cX5_init 52 = .ok (.sipush 330, 3) := by decide +kernel
theorem dX5_init_55 : decode cX5_init 55 = .ok (.newarray .int, 2) := by decide +kernel
theorem dX5_init_57 : decode cX5_init 57 = .ok (.putfield 34, 3) := by decide +kernel
theorem dX5_init_60 : decode cX5_init 60 = .ok (.aload_n 0, 1) := by decide +kernel
theorem dX5_init_61 : decode cX5_init 61 = .ok (.sipush 330, 3) := by decide +kernel
theorem dX5_init_64 : decode cX5_init 64 = .ok (.newarray .int, 2) := by decide +kernel
theorem dX5_init_66 : decode cX5_init 66 = .ok (.putfield 37, 3) := by decide +kernel
theorem dX5_init_69 : decode cX5_init 69 = .ok (.aload_n 0, 1) := by decide +kernel
theorem dX5_init_70 : decode cX5_init 70 = .ok (.aload_n 1, 1) := by decide +kernel
theorem dX5_init_71 : decode cX5_init 71 = .ok (.putfield 40, 3) := by decide +kernel
theorem dX5_init_74 : decode cX5_init 74 = .ok (.return_, 1) := by decide +kernel
theorem dX5_solve_0 : decode cX5_solve 0 = .ok (.aload_n 0, 1) := by decide +kernel
theorem dX5_solve_1 : decode cX5_solve 1 = .ok (.getfield 27, 3) := by decide +kernel
theorem dX5_solve_4 : decode cX5_solve 4 = .ok (.aload_n 0, 1) := by decide +kernel
theorem dX5_solve_5 : decode cX5_solve 5 = .ok (.getfield 40, 3) := by decide +kernel
theorem dX5_solve_8 : decode cX5_solve 8 = .ok (.getfield 44, 3) := by decide +kernel
theorem dX5_solve_11 : decode cX5_solve 11 = .ok (.if_icmp .ne 4, 3) := by decide +kernel
theorem dX5_solve_14 : decode cX5_solve 14 = .ok (.return_, 1) := by decide +kernel
theorem dX5_solve_15 : decode cX5_solve 15 = .ok (.aload_n 0, 1) := by decide +kernel
theorem dX5_solve_16 : decode cX5_solve 16 = .ok (.aload_n 0, 1) := by decide +kernel
theorem dX5_solve_17 : decode cX5_solve 17 = .ok (.getfield 40, 3) := by decide +kernel
theorem dX5_solve_20 : decode cX5_solve 20 = .ok (.getfield 44, 3) := by decide +kernel
theorem dX5_solve_23 : decode cX5_solve 23 = .ok (.putfield 27, 3) := by decide +kernel
theorem dX5_solve_26 : decode cX5_solve 26 = .ok (.iconst 0, 1) := by decide +kernel
theorem dX5_solve_27 : decode cX5_solve 27 = .ok (.istore_n 1, 1) := by decide +kernel
theorem dX5_solve_28 : decode cX5_solve 28 = .ok (.iload_n 1, 1) := by decide +kernel
theorem dX5_solve_29 : decode cX5_solve 29 = .ok (.sipush 200, 3) := by decide +kernel
theorem dX5_solve_32 : decode cX5_solve 32 = .ok (.if_icmp .gt 37, 3) := by decide +kernel
theorem dX5_solve_35 : decode cX5_solve 35 = .ok (.aload_n 0, 1) := by decide +kernel
theorem dX5_solve_36 : decode cX5_solve 36 = .ok (.getfield 11, 3) := by decide +kernel
theorem dX5_solve_39 : decode cX5_solve 39 = .ok (.bipush 24, 2) := by decide +kernel
theorem dX5_solve_41 : decode cX5_solve 41 = .ok (.aaload, 1) := by decide +kernel
theorem dX5_solve_42 : decode cX5_solve 42 = .ok (.iload_n 1, 1) := by decide +kernel
theorem dX5_solve_43 : decode cX5_solve 43 = .ok (.iload_n 1, 1) := by decide +kernel
theorem dX5_solve_44 : decode cX5_solve 44 = .ok (.aload_n 0, 1) := by decide +kernel
theorem dX5_solve_45 : decode cX5_solve 45 = .ok (.getfield 40, 3) := by decide +kernel
theorem dX5_solve_48 : decode cX5_solve 48 = .ok (.bipush 8, 2) := by decide +kernel
theorem dX5_solve_50 : decode cX5_solve 50 = .ok (.invokevirtual 49, 3) := by decide +kernel
theorem dX5_solve_53 : decode cX5_solve 53 = .ok (.if_icmp .lt 7, 3) := by decide +kernel
theorem dX5_solve_56 : decode cX5_solve 56 = .ok (.iconst 0, 1) := by decide +kernel
theorem dX5_solve_57 : decode cX5_solve 57 = .ok (.goto 5, 3) := by decide +kernel
theorem dX5_solve_60 : decode cX5_solve 60 = .ok (.ldc 53, 2) := by decide +kernel
theorem dX5_solve_62 : decode cX5_solve 62 = .ok (.iastore, 1) := by decide +kernel
theorem dX5_solve_63 : decode cX5_solve 63 = .ok (.iinc 1 1, 3) := by decide +kernel
theorem dX5_solve_66 : decode cX5_solve 66 = .ok (.goto (-38), 3) := by decide +kernel
theorem dX5_solve_69 : decode cX5_solve 69 = .ok (.iconst 0, 1) := by decide +kernel
theorem dX5_solve_70 : decode cX5_solve 70 = .ok (.istore_n 1, 1) := by decide +kernel
theorem dX5_solve_71 : decode cX5_solve 71 = .ok (.iload_n 1, 1) := by decide +kernel
theorem dX5_solve_72 : decode cX5_solve 72 = .ok (.bipush 30, 2) := by decide +kernel
theorem dX5_solve_74 : decode cX5_solve 74 = .ok (.if_icmp .gt 25, 3) := by decide +kernel
theorem dX5_solve_77 : decode cX5_solve 77 = .ok (.aload_n 0, 1) := by decide +kernel
theorem dX5_solve_78 : decode cX5_solve 78 = .ok (.getfield 16, 3) := by decide +kernel
theorem dX5_solve_81 : decode cX5_solve 81 = .ok (.iload_n 1, 1) := by decide +kernel
theorem dX5_solve_82 : decode cX5_solve 82 = .ok (.iload_n 1, 1) := by decide +kernel
theorem dX5_solve_83 : decode cX5_solve 83 = .ok (.aload_n 0, 1) := by decide +kernel
theorem dX5_solve_84 : decode cX5_solve 84 = .ok (.getfield 40, 3) := by decide +kernel
theorem dX5_solve_87 : decode cX5_solve 87 = .ok (.iload_n 1, 1) := by decide +kernel
theorem dX5_solve_88 : decode cX5_solve 88 = .ok (.invokevirtual 54, 3) := by decide +kernel
theorem dX5_solve_91 : decode cX5_solve 91 = .ok (.isub, 1) := by decide +kernel
theorem dX5_solve_92 : decode cX5_solve 92 = .ok (.iastore, 1) := by decide +kernel
theorem dX5_solve_93 : decode cX5_solve 93 = .ok (.iinc 1 1, 3) := by decide +kernel
theorem dX5_solve_96 : decode cX5_solve 96 = .ok (.goto (-25), 3) := by decide +kernel
theorem dX5_solve_99 : decode cX5_solve 99 = .ok (.bipush 23, 2) := by decide +kernel
theorem dX5_solve_101 : decode cX5_solve 101 = .ok (.istore_n 1, 1) := by decide +kernel
theorem dX5_solve_102 : decode cX5_solve 102 = .ok (.iload_n 1, 1) := by decide +kernel
theorem dX5_solve_103 : decode cX5_solve 103 = .ok (.ifCond .lt 19, 3) := by decide +kernel
theorem dX5_solve_106 : decode cX5_solve 106 = .ok (.aload_n 0, 1) := by decide +kernel
theorem dX5_solve_107 : decode cX5_solve 107 = .ok (.iload_n 1, 1) := by decide +kernel
theorem dX5_solve_108 : decode cX5_solve 108 = .ok (.invokevirtual 57, 3) := by decide +kernel
theorem dX5_solve_111 : decode cX5_solve 111 = .ok (.aload_n 0, 1) := by decide +kernel
theorem dX5_solve_112 : decode cX5_solve 112 = .ok (.iload_n 1, 1) := by decide +kernel
theorem dX5_solve_113 : decode cX5_solve 113 = .ok (.invokevirtual 61, 3) := by decide +kernel
theorem dX5_solve_116 : decode cX5_solve 116 = .ok (.iinc 1 (-1), 3) := by decide +kernel
theorem dX5_solve_119 : decode cX5_solve 119 = .ok (.goto (-17), 3) := by decide +kernel
theorem dX5_solve_122 : decode cX5_solve 122 = .ok (.aload_n 0, 1) := by decide +kernel
theorem dX5_solve_123 : decode cX5_solve 123 = .ok (.invokevirtual 64, 3) := by decide +kernel
theorem dX5_solve_126 : decode cX5_solve 126 = .ok (.return_, 1) := by decide +kernel
theorem dX5_mostFrom_0 : decode cX5_mostFrom 0 = .ok (.iload_n 1, 1) := by decide +kernel
theorem dX5_mostFrom_1 : decode cX5_mostFrom 1 = .ok (.ifCond .lt 20, 3) := by decide +kernel
theorem dX5_mostFrom_4 : decode cX5_mostFrom 4 = .ok (.iload_n 1, 1) := by decide +kernel
theorem dX5_mostFrom_5 : decode cX5_mostFrom 5 = .ok (.bipush 24, 2) := by decide +kernel
theorem dX5_mostFrom_7 : decode cX5_mostFrom 7 = .ok (.if_icmp .gt 14, 3) := by decide +kernel
theorem dX5_mostFrom_10 : decode cX5_mostFrom 10 = .ok (.iload_n 2, 1) := by decide +kernel
theorem dX5_mostFrom_11 : decode cX5_mostFrom 11 = .ok (.ifCond .lt 10, 3) := by decide +kernel
theorem dX5_mostFrom_14 : decode cX5_mostFrom 14 = .ok (.iload_n 2, 1) := by decide +kernel
theorem dX5_mostFrom_15 : decode cX5_mostFrom 15 = .ok (.sipush 200, 3) := by decide +kernel
theorem dX5_mostFrom_18 : decode cX5_mostFrom 18 = .ok (.if_icmp .le 6, 3) := by decide +kernel
theorem dX5_mostFrom_21 : decode cX5_mostFrom 21 = .ok (.ldc 53, 2) := by decide +kernel
theorem dX5_mostFrom_23 : decode cX5_mostFrom 23 = .ok (.ireturn, 1) := by decide +kernel
theorem dX5_mostFrom_24 : decode cX5_mostFrom 24 = .ok (.aload_n 0, 1) := by decide +kernel
theorem dX5_mostFrom_25 : decode cX5_mostFrom 25 = .ok (.getfield 11, 3) := by decide +kernel
theorem dX5_mostFrom_28 : decode cX5_mostFrom 28 = .ok (.iload_n 1, 1) := by decide +kernel
theorem dX5_mostFrom_29 : decode cX5_mostFrom 29 = .ok (.aaload, 1) := by decide +kernel
theorem dX5_mostFrom_30 : decode cX5_mostFrom 30 = .ok (.iload_n 2, 1) := by decide +kernel
theorem dX5_mostFrom_31 : decode cX5_mostFrom 31 = .ok (.iaload, 1) := by decide +kernel
theorem dX5_mostFrom_32 : decode cX5_mostFrom 32 = .ok (.ireturn, 1) := by decide +kernel
theorem dX5_lookAt_0 : decode cX5_lookAt 0 = .ok (.iconst 0, 1) := by decide +kernel
theorem dX5_lookAt_1 : decode cX5_lookAt 1 = .ok (.istore_n 2, 1) := by decide +kernel
theorem dX5_lookAt_2 : decode cX5_lookAt 2 = .ok (.iload_n 2, 1) := by decide +kernel
theorem dX5_lookAt_3 : decode cX5_lookAt 3 = .ok (.bipush 30, 2) := by decide +kernel
theorem dX5_lookAt_5 : decode cX5_lookAt 5 = .ok (.if_icmp .gt 24, 3) := by decide +kernel
theorem dX5_lookAt_8 : decode cX5_lookAt 8 = .ok (.aload_n 0, 1) := by decide +kernel
theorem dX5_lookAt_9 : decode cX5_lookAt 9 = .ok (.getfield 31, 3) := by decide +kernel
theorem dX5_lookAt_12 : decode cX5_lookAt 12 = .ok (.iload_n 2, 1) := by decide +kernel
theorem dX5_lookAt_13 : decode cX5_lookAt 13 = .ok (.aload_n 0, 1) := by decide +kernel
theorem dX5_lookAt_14 : decode cX5_lookAt 14 = .ok (.getfield 40, 3) := by decide +kernel
theorem dX5_lookAt_17 : decode cX5_lookAt 17 = .ok (.iload_n 1, 1) := by decide +kernel
theorem dX5_lookAt_18 : decode cX5_lookAt 18 = .ok (.iload_n 2, 1) := by decide +kernel
theorem dX5_lookAt_19 : decode cX5_lookAt 19 = .ok (.invokevirtual 67, 3) := by decide +kernel
theorem dX5_lookAt_22 : decode cX5_lookAt 22 = .ok (.iastore, 1) := by decide +kernel
theorem dX5_lookAt_23 : decode cX5_lookAt 23 = .ok (.iinc 2 1, 3) := by decide +kernel
theorem dX5_lookAt_26 : decode cX5_lookAt 26 = .ok (.goto (-24), 3) := by decide +kernel
theorem dX5_lookAt_29 : decode cX5_lookAt 29 = .ok (.iconst 0, 1) := by decide +kernel
theorem dX5_lookAt_30 : decode cX5_lookAt 30 = .ok (.istore_n 2, 1) := by decide +kernel
theorem dX5_lookAt_31 : decode cX5_lookAt 31 = .ok (.iload_n 2, 1) := by decide +kernel
theorem dX5_lookAt_32 : decode cX5_lookAt 32 = .ok (.sipush 329, 3) := by decide +kernel
theorem dX5_lookAt_35 : decode cX5_lookAt 35 = .ok (.if_icmp .gt 32, 3) := by decide +kernel
theorem dX5_lookAt_38 : decode cX5_lookAt 38 = .ok (.aload_n 0, 1) := by decide +kernel
theorem dX5_lookAt_39 : decode cX5_lookAt 39 = .ok (.getfield 34, 3) := by decide +kernel
theorem dX5_lookAt_42 : decode cX5_lookAt 42 = .ok (.iload_n 2, 1) := by decide +kernel
theorem dX5_lookAt_43 : decode cX5_lookAt 43 = .ok (.aload_n 0, 1) := by decide +kernel
theorem dX5_lookAt_44 : decode cX5_lookAt 44 = .ok (.iload_n 1, 1) := by decide +kernel
theorem dX5_lookAt_45 : decode cX5_lookAt 45 = .ok (.iconst 1, 1) := by decide +kernel
theorem dX5_lookAt_46 : decode cX5_lookAt 46 = .ok (.iadd, 1) := by decide +kernel
theorem dX5_lookAt_47 : decode cX5_lookAt 47 = .ok (.iload_n 2, 1) := by decide +kernel
theorem dX5_lookAt_48 : decode cX5_lookAt 48 = .ok (.aload_n 0, 1) := by decide +kernel
theorem dX5_lookAt_49 : decode cX5_lookAt 49 = .ok (.getfield 40, 3) := by decide +kernel
theorem dX5_lookAt_52 : decode cX5_lookAt 52 = .ok (.iload_n 2, 1) := by decide +kernel
theorem dX5_lookAt_53 : decode cX5_lookAt 53 = .ok (.invokevirtual 71, 3) := by decide +kernel
theorem dX5_lookAt_56 : decode cX5_lookAt 56 = .ok (.isub, 1) := by decide +kernel
theorem dX5_lookAt_57 : decode cX5_lookAt 57 = .ok (.invokevirtual 74, 3) := by decide +kernel
theorem dX5_lookAt_60 : decode cX5_lookAt 60 = .ok (.iastore, 1) := by decide +kernel
theorem dX5_lookAt_61 : decode cX5_lookAt 61 = .ok (.iinc 2 1, 3) := by decide +kernel
theorem dX5_lookAt_64 : decode cX5_lookAt 64 = .ok (.goto (-33), 3) := by decide +kernel
theorem dX5_lookAt_67 : decode cX5_lookAt 67 = .ok (.aload_n 0, 1) := by decide +kernel
theorem dX5_lookAt_68 : decode cX5_lookAt 68 = .ok (.getfield 40, 3) := by decide +kernel
theorem dX5_lookAt_71 : decode cX5_lookAt 71 = .ok (.iconst 4, 1) := by decide +kernel
theorem dX5_lookAt_72 : decode cX5_lookAt 72 = .ok (.invokevirtual 49, 3) := by decide +kernel
theorem dX5_lookAt_75 : decode cX5_lookAt 75 = .ok (.istore_n 2, 1) := by decide +kernel
theorem dX5_lookAt_76 : decode cX5_lookAt 76 = .ok (.iconst 0, 1) := by decide +kernel
theorem dX5_lookAt_77 : decode cX5_lookAt 77 = .ok (.istore_n 3, 1) := by decide +kernel
theorem dX5_lookAt_78 : decode cX5_lookAt 78 = .ok (.iload_n 3, 1) := by decide +kernel
theorem dX5_lookAt_79 : decode cX5_lookAt 79 = .ok (.sipush 329, 3) := by decide +kernel
