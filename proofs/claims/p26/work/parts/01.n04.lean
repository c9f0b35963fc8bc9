theorem dX5_lookAt_82 : decode cX5_lookAt 82 = .ok (.if_icmp .gt 29, 3) := by decide +kernel
theorem dX5_lookAt_85 : decode cX5_lookAt 85 = .ok (.aload_n 0, 1) := by decide +kernel
theorem dX5_lookAt_86 : decode cX5_lookAt 86 = .ok (.getfield 37, 3) := by decide +kernel
theorem dX5_lookAt_89 : decode cX5_lookAt 89 = .ok (.iload_n 3, 1) := by decide +kernel
theorem dX5_lookAt_90 : decode cX5_lookAt 90 = .ok (.aload_n 0, 1) := by decide +kernel
theorem dX5_lookAt_91 : decode cX5_lookAt 91 = .ok (.iload_n 3, 1) := by decide +kernel
theorem dX5_lookAt_92 : decode cX5_lookAt 92 = .ok (.aload_n 0, 1) := by decide +kernel
theorem dX5_lookAt_93 : decode cX5_lookAt 93 = .ok (.getfield 40, 3) := by decide +kernel
theorem dX5_lookAt_96 : decode cX5_lookAt 96 = .ok (.iload_n 3, 1) := by decide +kernel
theorem dX5_lookAt_97 : decode cX5_lookAt 97 = .ok (.iload_n 2, 1) := by decide +kernel
theorem dX5_lookAt_98 : decode cX5_lookAt 98 = .ok (.invokevirtual 77, 3) := by decide +kernel
theorem dX5_lookAt_101 : decode cX5_lookAt 101 = .ok (.invokevirtual 80, 3) := by decide +kernel
theorem dX5_lookAt_104 : decode cX5_lookAt 104 = .ok (.iastore, 1) := by decide +kernel
theorem dX5_lookAt_105 : decode cX5_lookAt 105 = .ok (.iinc 3 1, 3) := by decide +kernel
theorem dX5_lookAt_108 : decode cX5_lookAt 108 = .ok (.goto (-30), 3) := by decide +kernel
theorem dX5_lookAt_111 : decode cX5_lookAt 111 = .ok (.return_, 1) := by decide +kernel
theorem dX5_mostWith_0 : decode cX5_mostWith 0 = .ok (.iload_n 1, 1) := by decide +kernel
theorem dX5_mostWith_1 : decode cX5_mostWith 1 = .ok (.iload_n 2, 1) := by decide +kernel
theorem dX5_mostWith_2 : decode cX5_mostWith 2 = .ok (.isub, 1) := by decide +kernel
theorem dX5_mostWith_3 : decode cX5_mostWith 3 = .ok (.istore_n 3, 1) := by decide +kernel
theorem dX5_mostWith_4 : decode cX5_mostWith 4 = .ok (.iload_n 2, 1) := by decide +kernel
theorem dX5_mostWith_5 : decode cX5_mostWith 5 = .ok (.ifCond .lt 31, 3) := by decide +kernel
theorem dX5_mostWith_8 : decode cX5_mostWith 8 = .ok (.iload_n 2, 1) := by decide +kernel
theorem dX5_mostWith_9 : decode cX5_mostWith 9 = .ok (.bipush 30, 2) := by decide +kernel
theorem dX5_mostWith_11 : decode cX5_mostWith 11 = .ok (.if_icmp .gt 25, 3) := by decide +kernel
theorem dX5_mostWith_14 : decode cX5_mostWith 14 = .ok (.iload_n 3, 1) := by decide +kernel
theorem dX5_mostWith_15 : decode cX5_mostWith 15 = .ok (.ifCond .lt 21, 3) := by decide +kernel
theorem dX5_mostWith_18 : decode cX5_mostWith 18 = .ok (.iload_n 3, 1) := by decide +kernel
theorem dX5_mostWith_19 : decode cX5_mostWith 19 = .ok (.sipush 329, 3) := by decide +kernel
theorem dX5_mostWith_22 : decode cX5_mostWith 22 = .ok (.if_icmp .gt 14, 3) := by decide +kernel
theorem dX5_mostWith_25 : decode cX5_mostWith 25 = .ok (.aload_n 0, 1) := by decide +kernel
theorem dX5_mostWith_26 : decode cX5_mostWith 26 = .ok (.getfield 34, 3) := by decide +kernel
theorem dX5_mostWith_29 : decode cX5_mostWith 29 = .ok (.iload_n 3, 1) := by decide +kernel
theorem dX5_mostWith_30 : decode cX5_mostWith 30 = .ok (.iaload, 1) := by decide +kernel
theorem dX5_mostWith_31 : decode cX5_mostWith 31 = .ok (.ldc 53, 2) := by decide +kernel
theorem dX5_mostWith_33 : decode cX5_mostWith 33 = .ok (.if_icmp .ne 6, 3) := by decide +kernel
theorem dX5_mostWith_36 : decode cX5_mostWith 36 = .ok (.ldc 53, 2) := by decide +kernel
theorem dX5_mostWith_38 : decode cX5_mostWith 38 = .ok (.ireturn, 1) := by decide +kernel
theorem dX5_mostWith_39 : decode cX5_mostWith 39 = .ok (.aload_n 0, 1) := by decide +kernel
theorem dX5_mostWith_40 : decode cX5_mostWith 40 = .ok (.getfield 34, 3) := by decide +kernel
theorem dX5_mostWith_43 : decode cX5_mostWith 43 = .ok (.iload_n 3, 1) := by decide +kernel
theorem dX5_mostWith_44 : decode cX5_mostWith 44 = .ok (.iaload, 1) := by decide +kernel
theorem dX5_mostWith_45 : decode cX5_mostWith 45 = .ok (.aload_n 0, 1) := by decide +kernel
theorem dX5_mostWith_46 : decode cX5_mostWith 46 = .ok (.getfield 31, 3) := by decide +kernel
theorem dX5_mostWith_49 : decode cX5_mostWith 49 = .ok (.iload_n 2, 1) := by decide +kernel
theorem dX5_mostWith_50 : decode cX5_mostWith 50 = .ok (.iaload, 1) := by decide +kernel
theorem dX5_mostWith_51 : decode cX5_mostWith 51 = .ok (.iadd, 1) := by decide +kernel
theorem dX5_mostWith_52 : decode cX5_mostWith 52 = .ok (.ireturn, 1) := by decide +kernel
theorem dX5_solveHour_0 : decode cX5_solveHour 0 = .ok (.iload_n 1, 1) := by decide +kernel
theorem dX5_solveHour_1 : decode cX5_solveHour 1 = .ok (.invokestatic 83, 3) := by decide +kernel
theorem dX5_solveHour_4 : decode cX5_solveHour 4 = .ok (.ifCond .ne 4, 3) := by decide +kernel
theorem dX5_solveHour_7 : decode cX5_solveHour 7 = .ok (.return_, 1) := by decide +kernel
theorem dX5_solveHour_8 : decode cX5_solveHour 8 = .ok (.iload_n 1, 1) := by decide +kernel
theorem dX5_solveHour_9 : decode cX5_solveHour 9 = .ok (.ifCond .ne 9, 3) := by decide +kernel
theorem dX5_solveHour_12 : decode cX5_solveHour 12 = .ok (.sipush 200, 3) := by decide +kernel
theorem dX5_solveHour_15 : decode cX5_solveHour 15 = .ok (.goto 18, 3) := by decide +kernel
theorem dX5_solveHour_18 : decode cX5_solveHour 18 = .ok (.aload_n 0, 1) := by decide +kernel
theorem dX5_solveHour_19 : decode cX5_solveHour 19 = .ok (.getfield 40, 3) := by decide +kernel
theorem dX5_solveHour_22 : decode cX5_solveHour 22 = .ok (.bipush 6, 2) := by decide +kernel
theorem dX5_solveHour_24 : decode cX5_solveHour 24 = .ok (.invokevirtual 49, 3) := by decide +kernel
theorem dX5_solveHour_27 : decode cX5_solveHour 27 = .ok (.sipush 200, 3) := by decide +kernel
theorem dX5_solveHour_30 : decode cX5_solveHour 30 = .ok (.invokestatic 87, 3) := by decide +kernel
theorem dX5_solveHour_33 : decode cX5_solveHour 33 = .ok (.istore_n 2, 1) := by decide +kernel
theorem dX5_solveHour_34 : decode cX5_solveHour 34 = .ok (.aload_n 0, 1) := by decide +kernel
theorem dX5_solveHour_35 : decode cX5_solveHour 35 = .ok (.getfield 40, 3) := by decide +kernel
theorem dX5_solveHour_38 : decode cX5_solveHour 38 = .ok (.iload_n 1, 1) := by decide +kernel
theorem dX5_solveHour_39 : decode cX5_solveHour 39 = .ok (.invokevirtual 92, 3) := by decide +kernel
theorem dX5_solveHour_42 : decode cX5_solveHour 42 = .ok (.istore_n 3, 1) := by decide +kernel
theorem dX5_solveHour_43 : decode cX5_solveHour 43 = .ok (.iconst 0, 1) := by decide +kernel
theorem dX5_solveHour_44 : decode cX5_solveHour 44 = .ok (.istore 4, 2) := by decide +kernel
theorem dX5_solveHour_46 : decode cX5_solveHour 46 = .ok (.iload 4, 2) := by decide +kernel
theorem dX5_solveHour_48 : decode cX5_solveHour 48 = .ok (.iload_n 2, 1) := by decide +kernel
theorem dX5_solveHour_49 : decode cX5_solveHour 49 = .ok (.if_icmp .gt 47, 3) := by decide +kernel
theorem dX5_solveHour_52 : decode cX5_solveHour 52 = .ok (.iload 4, 2) := by decide +kernel
theorem dX5_solveHour_54 : decode cX5_solveHour 54 = .ok (.aload_n 0, 1) := by decide +kernel
theorem dX5_solveHour_55 : decode cX5_solveHour 55 = .ok (.getfield 40, 3) := by decide +kernel
theorem dX5_solveHour_58 : decode cX5_solveHour 58 = .ok (.iload_n 1, 1) := by decide +kernel
theorem dX5_solveHour_59 : decode cX5_solveHour 59 = .ok (.invokevirtual 95, 3) := by decide +kernel
theorem dX5_solveHour_62 : decode cX5_solveHour 62 = .ok (.iadd, 1) := by decide +kernel
theorem dX5_solveHour_63 : decode cX5_solveHour 63 = .ok (.istore 5, 2) := by decide +kernel
theorem dX5_solveHour_65 : decode cX5_solveHour 65 = .ok (.aload_n 0, 1) := by decide +kernel
theorem dX5_solveHour_66 : decode cX5_solveHour 66 = .ok (.getfield 11, 3) := by decide +kernel
theorem dX5_solveHour_69 : decode cX5_solveHour 69 = .ok (.iload_n 1, 1) := by decide +kernel
theorem dX5_solveHour_70 : decode cX5_solveHour 70 = .ok (.aaload, 1) := by decide +kernel
theorem dX5_solveHour_71 : decode cX5_solveHour 71 = .ok (.iload 4, 2) := by decide +kernel
theorem dX5_solveHour_73 : decode cX5_solveHour 73 = .ok (.aload_n 0, 1) := by decide +kernel
theorem dX5_solveHour_74 : decode cX5_solveHour 74 = .ok (.iload 5, 2) := by decide +kernel
theorem dX5_solveHour_76 : decode cX5_solveHour 76 = .ok (.iload_n 3, 1) := by decide +kernel
theorem dX5_solveHour_77 : decode cX5_solveHour 77 = .ok (.invokevirtual 98, 3) := by decide +kernel
theorem dX5_solveHour_80 : decode cX5_solveHour 80 = .ok (.aload_n 0, 1) := by decide +kernel
theorem dX5_solveHour_81 : decode cX5_solveHour 81 = .ok (.iload 5, 2) := by decide +kernel
theorem dX5_solveHour_83 : decode cX5_solveHour 83 = .ok (.invokevirtual 101, 3) := by decide +kernel
theorem dX5_solveHour_86 : decode cX5_solveHour 86 = .ok (.invokestatic 104, 3) := by decide +kernel
theorem dX5_solveHour_89 : decode cX5_solveHour 89 = .ok (.iastore, 1) := by decide +kernel
theorem dX5_solveHour_90 : decode cX5_solveHour 90 = .ok (.iinc 4 1, 3) := by decide +kernel
theorem dX5_solveHour_93 : decode cX5_solveHour 93 = .ok (.goto (-47), 3) := by decide +kernel
theorem dX5_solveHour_96 : decode cX5_solveHour 96 = .ok (.return_, 1) := by decide +kernel
theorem dX5_mostByPumping_0 : decode cX5_mostByPumping 0 = .ok (.aload_n 0, 1) := by decide +kernel
theorem dX5_mostByPumping_1 : decode cX5_mostByPumping 1 = .ok (.getfield 40, 3) := by decide +kernel
theorem dX5_mostByPumping_4 : decode cX5_mostByPumping 4 = .ok (.iconst 0, 1) := by decide +kernel
theorem dX5_mostByPumping_5 : decode cX5_mostByPumping 5 = .ok (.invokevirtual 49, 3) := by decide +kernel
theorem dX5_mostByPumping_8 : decode cX5_mostByPumping 8 = .ok (.bipush 30, 2) := by decide +kernel
theorem dX5_mostByPumping_10 : decode cX5_mostByPumping 10 = .ok (.invokestatic 87, 3) := by decide +kernel
theorem dX5_mostByPumping_13 : decode cX5_mostByPumping 13 = .ok (.istore_n 3, 1) := by decide +kernel
theorem dX5_mostByPumping_14 : decode cX5_mostByPumping 14 = .ok (.ldc 53, 2) := by decide +kernel
theorem dX5_mostByPumping_16 : decode cX5_mostByPumping 16 = .ok (.istore 4, 2) := by decide +kernel
theorem dX5_mostByPumping_18 : decode cX5_mostByPumping 18 = .ok (.iconst 0, 1) := by decide +kernel
theorem dX5_mostByPumping_19 : decode cX5_mostByPumping 19 = .ok (.istore 5, 2) := by decide +kernel
theorem dX5_mostByPumping_21 : decode cX5_mostByPumping 21 = .ok (.iload 5, 2) := by decide +kernel
theorem dX5_mostByPumping_23 : decode cX5_mostByPumping 23 = .ok (.iload_n 3, 1) := by decide +kernel
theorem dX5_mostByPumping_24 : decode cX5_mostByPumping 24 = .ok (.if_icmp .gt 64, 3) := by decide +kernel
theorem dX5_mostByPumping_27 : decode cX5_mostByPumping 27 = .ok (.iload_n 1, 1) := by decide +kernel
theorem dX5_mostByPumping_28 : decode cX5_mostByPumping 28 = .ok (.aload_n 0, 1) := by decide +kernel
theorem dX5_mostByPumping_29 : decode cX5_mostByPumping 29 = .ok (.getfield 16, 3) := by decide +kernel
theorem dX5_mostByPumping_32 : decode cX5_mostByPumping 32 = .ok (.iload 5, 2) := by decide +kernel
theorem dX5_mostByPumping_34 : decode cX5_mostByPumping 34 = .ok (.iaload, 1) := by decide +kernel
theorem dX5_mostByPumping_35 : decode cX5_mostByPumping 35 = .ok (.iadd, 1) := by decide +kernel
theorem dX5_mostByPumping_36 : decode cX5_mostByPumping 36 = .ok (.istore 6, 2) := by decide +kernel
theorem dX5_mostByPumping_38 : decode cX5_mostByPumping 38 = .ok (.iload 6, 2) := by decide +kernel
theorem dX5_mostByPumping_40 : decode cX5_mostByPumping 40 = .ok (.ifCond .lt 42, 3) := by decide +kernel
theorem dX5_mostByPumping_43 : decode cX5_mostByPumping 43 = .ok (.iload 6, 2) := by decide +kernel
theorem dX5_mostByPumping_45 : decode cX5_mostByPumping 45 = .ok (.sipush 329, 3) := by decide +kernel
theorem dX5_mostByPumping_48 : decode cX5_mostByPumping 48 = .ok (.if_icmp .gt 34, 3) := by decide +kernel
theorem dX5_mostByPumping_51 : decode cX5_mostByPumping 51 = .ok (.aload_n 0, 1) := by decide +kernel
theorem dX5_mostByPumping_52 : decode cX5_mostByPumping 52 = .ok (.getfield 37, 3) := by decide +kernel
theorem dX5_mostByPumping_55 : decode cX5_mostByPumping 55 = .ok (.iload 6, 2) := by decide +kernel
theorem dX5_mostByPumping_57 : decode cX5_mostByPumping 57 = .ok (.iaload, 1) := by decide +kernel
theorem dX5_mostByPumping_58 : decode cX5_mostByPumping 58 = .ok (.ldc 53, 2) := by decide +kernel
theorem dX5_mostByPumping_60 : decode cX5_mostByPumping 60 = .ok (.if_icmp .eq 22, 3) := by decide +kernel
theorem dX5_mostByPumping_63 : decode cX5_mostByPumping 63 = .ok (.iload 4, 2) := by decide +kernel
theorem dX5_mostByPumping_65 : decode cX5_mostByPumping 65 = .ok (.aload_n 0, 1) := by decide +kernel
theorem dX5_mostByPumping_66 : decode cX5_mostByPumping 66 = .ok (.getfield 37, 3) := by decide +kernel
theorem dX5_mostByPumping_69 : decode cX5_mostByPumping 69 = .ok (.iload 6, 2) := by decide +kernel
theorem dX5_mostByPumping_71 : decode cX5_mostByPumping 71 = .ok (.iaload, 1) := by decide +kernel
theorem dX5_mostByPumping_72 : decode cX5_mostByPumping 72 = .ok (.iload 5, 2) := by decide +kernel
theorem dX5_mostByPumping_74 : decode cX5_mostByPumping 74 = .ok (.iload_n 2, 1) := by decide +kernel
theorem dX5_mostByPumping_75 : decode cX5_mostByPumping 75 = .ok (.imul, 1) := by decide +kernel
theorem dX5_mostByPumping_76 : decode cX5_mostByPumping 76 = .ok (.isub, 1) := by decide +kernel
theorem dX5_mostByPumping_77 : decode cX5_mostByPumping 77 = .ok (.invokestatic 104, 3) := by decide +kernel
theorem dX5_mostByPumping_80 : decode cX5_mostByPumping 80 = .ok (.istore 4, 2) := by decide +kernel
theorem dX5_mostByPumping_82 : decode cX5_mostByPumping 82 = .ok (.iinc 5 1, 3) := by decide +kernel
theorem dX5_mostByPumping_85 : decode cX5_mostByPumping 85 = .ok (.goto (-64), 3) := by decide +kernel
theorem dX5_mostByPumping_88 : decode cX5_mostByPumping 88 = .ok (.iload 4, 2) := by decide +kernel
theorem dX5_mostByPumping_90 : decode cX5_mostByPumping 90 = .ok (.ireturn, 1) := by decide +kernel
theorem dX5_mostByLettingDown_0 : decode cX5_mostByLettingDown 0 = .ok (.aload_n 0, 1) := by decide +kernel
theorem dX5_mostByLettingDown_1 : decode cX5_mostByLettingDown 1 = .ok (.getfield 40, 3) := by decide +kernel
theorem dX5_mostByLettingDown_4 : decode cX5_mostByLettingDown 4 = .ok (.iconst 1, 1) := by decide +kernel
theorem dX5_mostByLettingDown_5 : decode cX5_mostByLettingDown 5 = .ok (.invokevirtual 49, 3) := by decide +kernel
theorem dX5_mostByLettingDown_8 : decode cX5_mostByLettingDown 8 = .ok (.iload_n 1, 1) := by decide +kernel
theorem dX5_mostByLettingDown_9 : decode cX5_mostByLettingDown 9 = .ok (.aload_n 0, 1) := by decide +kernel
theorem dX5_mostByLettingDown_10 : decode cX5_mostByLettingDown 10 = .ok (.getfield 40, 3) := by decide +kernel
theorem dX5_mostByLettingDown_13 : decode cX5_mostByLettingDown 13 = .ok (.iconst 5, 1) := by decide +kernel
theorem dX5_mostByLettingDown_14 : decode cX5_mostByLettingDown 14 = .ok (.invokevirtual 49, 3) := by decide +kernel
theorem dX5_mostByLettingDown_17 : decode cX5_mostByLettingDown 17 = .ok (.isub, 1) := by decide +kernel
theorem dX5_mostByLettingDown_18 : decode cX5_mostByLettingDown 18 = .ok (.invokestatic 87, 3) := by decide +kernel
theorem dX5_mostByLettingDown_21 : decode cX5_mostByLettingDown 21 = .ok (.istore_n 2, 1) := by decide +kernel
theorem dX5_mostByLettingDown_22 : decode cX5_mostByLettingDown 22 = .ok (.aload_n 0, 1) := by decide +kernel
theorem dX5_mostByLettingDown_23 : decode cX5_mostByLettingDown 23 = .ok (.getfield 40, 3) := by decide +kernel
theorem dX5_mostByLettingDown_26 : decode cX5_mostByLettingDown 26 = .ok (.iconst 4, 1) := by decide +kernel
theorem dX5_mostByLettingDown_27 : decode cX5_mostByLettingDown 27 = .ok (.invokevirtual 49, 3) := by decide +kernel
theorem dX5_mostByLettingDown_30 : decode cX5_mostByLettingDown 30 = .ok (.istore_n 3, 1) := by decide +kernel
theorem dX5_mostByLettingDown_31 : decode cX5_mostByLettingDown 31 = .ok (.ldc 53, 2) := by decide +kernel
theorem dX5_mostByLettingDown_33 : decode cX5_mostByLettingDown 33 = .ok (.istore 4, 2) := by decide +kernel
theorem dX5_mostByLettingDown_35 : decode cX5_mostByLettingDown 35 = .ok (.iconst 1, 1) := by decide +kernel
theorem dX5_mostByLettingDown_36 : decode cX5_mostByLettingDown 36 = .ok (.istore 5, 2) := by decide +kernel
theorem dX5_mostByLettingDown_38 : decode cX5_mostByLettingDown 38 = .ok (.iload 5, 2) := by decide +kernel
theorem dX5_mostByLettingDown_40 : decode cX5_mostByLettingDown 40 = .ok (.iload_n 2, 1) := by decide +kernel
theorem dX5_mostByLettingDown_41 : decode cX5_mostByLettingDown 41 = .ok (.if_icmp .gt 75, 3) := by decide +kernel
theorem dX5_mostByLettingDown_44 : decode cX5_mostByLettingDown 44 = .ok (.iload 5, 2) := by decide +kernel
theorem dX5_mostByLettingDown_46 : decode cX5_mostByLettingDown 46 = .ok (.bipush 30, 2) := by decide +kernel
theorem dX5_mostByLettingDown_48 : decode cX5_mostByLettingDown 48 = .ok (.if_icmp .gt 68, 3) := by decide +kernel
theorem dX5_mostByLettingDown_51 : decode cX5_mostByLettingDown 51 = .ok (.iload_n 1, 1) := by decide +kernel
theorem dX5_mostByLettingDown_52 : decode cX5_mostByLettingDown 52 = .ok (.iload 5, 2) := by decide +kernel
theorem dX5_mostByLettingDown_54 : decode cX5_mostByLettingDown 54 = .ok (.isub, 1) := by decide +kernel
theorem dX5_mostByLettingDown_55 : decode cX5_mostByLettingDown 55 = .ok (.istore 6, 2) := by decide +kernel
theorem dX5_mostByLettingDown_57 : decode cX5_mostByLettingDown 57 = .ok (.iload 5, 2) := by decide +kernel
theorem dX5_mostByLettingDown_59 : decode cX5_mostByLettingDown 59 = .ok (.iload_n 3, 1) := by decide +kernel
theorem dX5_mostByLettingDown_60 : decode cX5_mostByLettingDown 60 = .ok (.if_icmp .le 50, 3) := by decide +kernel
theorem dX5_mostByLettingDown_63 : decode cX5_mostByLettingDown 63 = .ok (.iload 6, 2) := by decide +kernel
theorem dX5_mostByLettingDown_65 : decode cX5_mostByLettingDown 65 = .ok (.ifCond .lt 45, 3) := by decide +kernel
theorem dX5_mostByLettingDown_68 : decode cX5_mostByLettingDown 68 = .ok (.iload 6, 2) := by decide +kernel
theorem dX5_mostByLettingDown_70 : decode cX5_mostByLettingDown 70 = .ok (.sipush 329, 3) := by decide +kernel
theorem dX5_mostByLettingDown_73 : decode cX5_mostByLettingDown 73 = .ok (.if_icmp .gt 37, 3) := by decide +kernel
theorem dX5_mostByLettingDown_76 : decode cX5_mostByLettingDown 76 = .ok (.aload_n 0, 1) := by decide +kernel
theorem dX5_mostByLettingDown_77 : decode cX5_mostByLettingDown 77 = .ok (.getfield 34, 3) := by decide +kernel
theorem dX5_mostByLettingDown_80 : decode cX5_mostByLettingDown 80 = .ok (.iload 6, 2) := by decide +kernel
theorem dX5_mostByLettingDown_82 : decode cX5_mostByLettingDown 82 = .ok (.iaload, 1) := by decide +kernel
theorem dX5_mostByLettingDown_83 : decode cX5_mostByLettingDown 83 = .ok (.ldc 53, 2) := by decide +kernel
theorem dX5_mostByLettingDown_85 : decode cX5_mostByLettingDown 85 = .ok (.if_icmp .eq 25, 3) := by decide +kernel
theorem dX5_mostByLettingDown_88 : decode cX5_mostByLettingDown 88 = .ok (.iload 4, 2) := by decide +kernel
theorem dX5_mostByLettingDown_90 : decode cX5_mostByLettingDown 90 = .ok (.aload_n 0, 1) := by decide +kernel
theorem dX5_mostByLettingDown_91 : decode cX5_mostByLettingDown 91 = .ok (.getfield 34, 3) := by decide +kernel
theorem dX5_mostByLettingDown_94 : decode cX5_mostByLettingDown 94 = .ok (.iload 6, 2) := by decide +kernel
theorem dX5_mostByLettingDown_96 : decode cX5_mostByLettingDown 96 = .ok (.iaload, 1) := by decide +kernel
theorem dX5_mostByLettingDown_97 : decode cX5_mostByLettingDown 97 = .ok (.aload_n 0, 1) := by decide +kernel
theorem dX5_mostByLettingDown_98 : decode cX5_mostByLettingDown 98 = .ok (.getfield 31, 3) := by decide +kernel
theorem dX5_mostByLettingDown_101 : decode cX5_mostByLettingDown 101 = .ok (.iload 5, 2) := by decide +kernel
theorem dX5_mostByLettingDown_103 : decode cX5_mostByLettingDown 103 = .ok (.iaload, 1) := by decide +kernel
theorem dX5_mostByLettingDown_104 : decode cX5_mostByLettingDown 104 = .ok (.iadd, 1) := by decide +kernel
theorem dX5_mostByLettingDown_105 : decode cX5_mostByLettingDown 105 = .ok (.invokestatic 104, 3) := by decide +kernel
theorem dX5_mostByLettingDown_108 : decode cX5_mostByLettingDown 108 = .ok (.istore 4, 2) := by decide +kernel
theorem dX5_mostByLettingDown_110 : decode cX5_mostByLettingDown 110 = .ok (.iinc 5 1, 3) := by decide +kernel
theorem dX5_mostByLettingDown_113 : decode cX5_mostByLettingDown 113 = .ok (.goto (-75), 3) := by decide +kernel
theorem dX5_mostByLettingDown_116 : decode cX5_mostByLettingDown 116 = .ok (.iload 4, 2) := by decide +kernel
theorem dX5_mostByLettingDown_118 : decode cX5_mostByLettingDown 118 = .ok (.ireturn, 1) := by decide +kernel
theorem dX5_choosePlan_0 : decode cX5_choosePlan 0 = .ok (.aload_n 0, 1) := by decide +kernel
theorem dX5_choosePlan_1 : decode cX5_choosePlan 1 = .ok (.getfield 40, 3) := by decide +kernel
theorem dX5_choosePlan_4 : decode cX5_choosePlan 4 = .ok (.bipush 7, 2) := by decide +kernel
theorem dX5_choosePlan_6 : decode cX5_choosePlan 6 = .ok (.invokevirtual 49, 3) := by decide +kernel
theorem dX5_choosePlan_9 : decode cX5_choosePlan 9 = .ok (.istore_n 1, 1) := by decide +kernel
theorem dX5_choosePlan_10 : decode cX5_choosePlan 10 = .ok (.aload_n 0, 1) := by decide +kernel
theorem dX5_choosePlan_11 : decode cX5_choosePlan 11 = .ok (.aload_n 0, 1) := by decide +kernel
theorem dX5_choosePlan_12 : decode cX5_choosePlan 12 = .ok (.iconst 0, 1) := by decide +kernel
theorem dX5_choosePlan_13 : decode cX5_choosePlan 13 = .ok (.iload_n 1, 1) := by decide +kernel
theorem dX5_choosePlan_14 : decode cX5_choosePlan 14 = .ok (.invokevirtual 74, 3) := by decide +kernel
theorem dX5_choosePlan_17 : decode cX5_choosePlan 17 = .ok (.ldc 53, 2) := by decide +kernel
theorem dX5_choosePlan_19 : decode cX5_choosePlan 19 = .ok (.if_icmp .eq 7, 3) := by decide +kernel
theorem dX5_choosePlan_22 : decode cX5_choosePlan 22 = .ok (.iconst 1, 1) := by decide +kernel
theorem dX5_choosePlan_23 : decode cX5_choosePlan 23 = .ok (.goto 4, 3) := by decide +kernel
theorem dX5_choosePlan_26 : decode cX5_choosePlan 26 = .ok (.iconst 0, 1) := by decide +kernel
theorem dX5_choosePlan_27 : decode cX5_choosePlan 27 = .ok (.putfield 23, 3) := by decide +kernel
theorem dX5_choosePlan_30 : decode cX5_choosePlan 30 = .ok (.aload_n 0, 1) := by decide +kernel
theorem dX5_choosePlan_31 : decode cX5_choosePlan 31 = .ok (.getfield 23, 3) := by decide +kernel
theorem dX5_choosePlan_34 : decode cX5_choosePlan 34 = .ok (.ifCond .ne 4, 3) := by decide +kernel
theorem dX5_choosePlan_37 : decode cX5_choosePlan 37 = .ok (.return_, 1) := by decide +kernel
theorem dX5_choosePlan_38 : decode cX5_choosePlan 38 = .ok (.iconst 0, 1) := by decide +kernel
theorem dX5_choosePlan_39 : decode cX5_choosePlan 39 = .ok (.istore_n 2, 1) := by decide +kernel
theorem dX5_choosePlan_40 : decode cX5_choosePlan 40 = .ok (.iload_n 2, 1) := by decide +kernel
theorem dX5_choosePlan_41 : decode cX5_choosePlan 41 = .ok (.bipush 24, 2) := by decide +kernel
theorem dX5_choosePlan_43 : decode cX5_choosePlan 43 = .ok (.if_icmp .ge 42, 3) := by decide +kernel
theorem dX5_choosePlan_46 : decode cX5_choosePlan 46 = .ok (.aload_n 0, 1) := by decide +kernel
theorem dX5_choosePlan_47 : decode cX5_choosePlan 47 = .ok (.iload_n 2, 1) := by decide +kernel
theorem dX5_choosePlan_48 : decode cX5_choosePlan 48 = .ok (.invokevirtual 57, 3) := by decide +kernel
theorem dX5_choosePlan_51 : decode cX5_choosePlan 51 = .ok (.aload_n 0, 1) := by decide +kernel
theorem dX5_choosePlan_52 : decode cX5_choosePlan 52 = .ok (.getfield 20, 3) := by decide +kernel
theorem dX5_choosePlan_55 : decode cX5_choosePlan 55 = .ok (.iload_n 2, 1) := by decide +kernel
theorem dX5_choosePlan_56 : decode cX5_choosePlan 56 = .ok (.aload_n 0, 1) := by decide +kernel
theorem dX5_choosePlan_57 : decode cX5_choosePlan 57 = .ok (.iload_n 2, 1) := by decide +kernel
theorem dX5_choosePlan_58 : decode cX5_choosePlan 58 = .ok (.iload_n 1, 1) := by decide +kernel
theorem dX5_choosePlan_59 : decode cX5_choosePlan 59 = .ok (.invokevirtual 107, 3) := by decide +kernel
theorem dX5_choosePlan_62 : decode cX5_choosePlan 62 = .ok (.iastore, 1) := by decide +kernel
theorem dX5_choosePlan_63 : decode cX5_choosePlan 63 = .ok (.aload_n 0, 1) := by decide +kernel
theorem dX5_choosePlan_64 : decode cX5_choosePlan 64 = .ok (.getfield 40, 3) := by decide +kernel
theorem dX5_choosePlan_67 : decode cX5_choosePlan 67 = .ok (.iload_n 2, 1) := by decide +kernel
theorem dX5_choosePlan_68 : decode cX5_choosePlan 68 = .ok (.iload_n 1, 1) := by decide +kernel
theorem dX5_choosePlan_69 : decode cX5_choosePlan 69 = .ok (.aload_n 0, 1) := by decide +kernel
theorem dX5_choosePlan_70 : decode cX5_choosePlan 70 = .ok (.getfield 20, 3) := by decide +kernel
theorem dX5_choosePlan_73 : decode cX5_choosePlan 73 = .ok (.iload_n 2, 1) := by decide +kernel
theorem dX5_choosePlan_74 : decode cX5_choosePlan 74 = .ok (.iaload, 1) := by decide +kernel
theorem dX5_choosePlan_75 : decode cX5_choosePlan 75 = .ok (.invokevirtual 110, 3) := by decide +kernel
theorem dX5_choosePlan_78 : decode cX5_choosePlan 78 = .ok (.istore_n 1, 1) := by decide +kernel
theorem dX5_choosePlan_79 : decode cX5_choosePlan 79 = .ok (.iinc 2 1, 3) := by decide +kernel
theorem dX5_choosePlan_82 : decode cX5_choosePlan 82 = .ok (.goto (-42), 3) := by decide +kernel
theorem dX5_choosePlan_85 : decode cX5_choosePlan 85 = .ok (.return_, 1) := by decide +kernel
theorem dX5_leastWithTheMost_0 : decode cX5_leastWithTheMost 0 = .ok (.aload_n 0, 1) := by decide +kernel
theorem dX5_leastWithTheMost_1 : decode cX5_leastWithTheMost 1 = .ok (.iload_n 1, 1) := by decide +kernel
theorem dX5_leastWithTheMost_2 : decode cX5_leastWithTheMost 2 = .ok (.iload_n 2, 1) := by decide +kernel
theorem dX5_leastWithTheMost_3 : decode cX5_leastWithTheMost 3 = .ok (.invokevirtual 74, 3) := by decide +kernel
theorem dX5_leastWithTheMost_6 : decode cX5_leastWithTheMost 6 = .ok (.istore_n 3, 1) := by decide +kernel
theorem dX5_leastWithTheMost_7 : decode cX5_leastWithTheMost 7 = .ok (.aload_n 0, 1) := by decide +kernel
theorem dX5_leastWithTheMost_8 : decode cX5_leastWithTheMost 8 = .ok (.getfield 40, 3) := by decide +kernel
theorem dX5_leastWithTheMost_11 : decode cX5_leastWithTheMost 11 = .ok (.iconst 0, 1) := by decide +kernel
theorem dX5_leastWithTheMost_12 : decode cX5_leastWithTheMost 12 = .ok (.invokevirtual 49, 3) := by decide +kernel
theorem dX5_leastWithTheMost_15 : decode cX5_leastWithTheMost 15 = .ok (.ineg, 1) := by decide +kernel
theorem dX5_leastWithTheMost_16 : decode cX5_leastWithTheMost 16 = .ok (.istore 4, 2) := by decide +kernel
theorem dX5_leastWithTheMost_18 : decode cX5_leastWithTheMost 18 = .ok (.iload 4, 2) := by decide +kernel
theorem dX5_leastWithTheMost_20 : decode cX5_leastWithTheMost 20 = .ok (.aload_n 0, 1) := by decide +kernel
theorem dX5_leastWithTheMost_21 : decode cX5_leastWithTheMost 21 = .ok (.getfield 40, 3) := by decide +kernel
theorem dX5_leastWithTheMost_24 : decode cX5_leastWithTheMost 24 = .ok (.iconst 1, 1) := by decide +kernel
theorem dX5_leastWithTheMost_25 : decode cX5_leastWithTheMost 25 = .ok (.invokevirtual 49, 3) := by decide +kernel
theorem dX5_leastWithTheMost_28 : decode cX5_leastWithTheMost 28 = .ok (.if_icmp .ge 83, 3) := by decide +kernel
theorem dX5_leastWithTheMost_31 : decode cX5_leastWithTheMost 31 = .ok (.iload 4, 2) := by decide +kernel
theorem dX5_leastWithTheMost_33 : decode cX5_leastWithTheMost 33 = .ok (.invokestatic 114, 3) := by decide +kernel
theorem dX5_leastWithTheMost_36 : decode cX5_leastWithTheMost 36 = .ok (.istore 5, 2) := by decide +kernel
theorem dX5_leastWithTheMost_38 : decode cX5_leastWithTheMost 38 = .ok (.aload_n 0, 1) := by decide +kernel
theorem dX5_leastWithTheMost_39 : decode cX5_leastWithTheMost 39 = .ok (.getfield 40, 3) := by decide +kernel
theorem dX5_leastWithTheMost_42 : decode cX5_leastWithTheMost 42 = .ok (.iload_n 1, 1) := by decide +kernel
theorem dX5_leastWithTheMost_43 : decode cX5_leastWithTheMost 43 = .ok (.iload_n 2, 1) := by decide +kernel
theorem dX5_leastWithTheMost_44 : decode cX5_leastWithTheMost 44 = .ok (.iload 5, 2) := by decide +kernel
theorem dX5_leastWithTheMost_46 : decode cX5_leastWithTheMost 46 = .ok (.invokevirtual 117, 3) := by decide +kernel
theorem dX5_leastWithTheMost_49 : decode cX5_leastWithTheMost 49 = .ok (.istore 6, 2) := by decide +kernel
theorem dX5_leastWithTheMost_51 : decode cX5_leastWithTheMost 51 = .ok (.aload_n 0, 1) := by decide +kernel
theorem dX5_leastWithTheMost_52 : decode cX5_leastWithTheMost 52 = .ok (.iload 6, 2) := by decide +kernel
theorem dX5_leastWithTheMost_54 : decode cX5_leastWithTheMost 54 = .ok (.aload_n 0, 1) := by decide +kernel
theorem dX5_leastWithTheMost_55 : decode cX5_leastWithTheMost 55 = .ok (.getfield 40, 3) := by decide +kernel
theorem dX5_leastWithTheMost_58 : decode cX5_leastWithTheMost 58 = .ok (.iload 6, 2) := by decide +kernel
theorem dX5_leastWithTheMost_60 : decode cX5_leastWithTheMost 60 = .ok (.aload_n 0, 1) := by decide +kernel
theorem dX5_leastWithTheMost_61 : decode cX5_leastWithTheMost 61 = .ok (.getfield 40, 3) := by decide +kernel
theorem dX5_leastWithTheMost_64 : decode cX5_leastWithTheMost 64 = .ok (.iload 4, 2) := by decide +kernel
theorem dX5_leastWithTheMost_66 : decode cX5_leastWithTheMost 66 = .ok (.invokevirtual 120, 3) := by decide +kernel
theorem dX5_leastWithTheMost_69 : decode cX5_leastWithTheMost 69 = .ok (.invokevirtual 77, 3) := by decide +kernel
theorem dX5_leastWithTheMost_72 : decode cX5_leastWithTheMost 72 = .ok (.invokevirtual 80, 3) := by decide +kernel
theorem dX5_leastWithTheMost_75 : decode cX5_leastWithTheMost 75 = .ok (.istore 7, 2) := by decide +kernel
theorem dX5_leastWithTheMost_77 : decode cX5_leastWithTheMost 77 = .ok (.iload 7, 2) := by decide +kernel
theorem dX5_leastWithTheMost_79 : decode cX5_leastWithTheMost 79 = .ok (.ldc 53, 2) := by decide +kernel
theorem dX5_leastWithTheMost_81 : decode cX5_leastWithTheMost 81 = .ok (.if_icmp .eq 24, 3) := by decide +kernel
theorem dX5_leastWithTheMost_84 : decode cX5_leastWithTheMost 84 = .ok (.iload 7, 2) := by decide +kernel
theorem dX5_leastWithTheMost_86 : decode cX5_leastWithTheMost 86 = .ok (.iload 5, 2) := by decide +kernel
theorem dX5_leastWithTheMost_88 : decode cX5_leastWithTheMost 88 = .ok (.aload_n 0, 1) := by decide +kernel
theorem dX5_leastWithTheMost_89 : decode cX5_leastWithTheMost 89 = .ok (.getfield 40, 3) := by decide +kernel
theorem dX5_leastWithTheMost_92 : decode cX5_leastWithTheMost 92 = .ok (.iload_n 1, 1) := by decide +kernel
theorem dX5_leastWithTheMost_93 : decode cX5_leastWithTheMost 93 = .ok (.invokevirtual 92, 3) := by decide +kernel
theorem dX5_leastWithTheMost_96 : decode cX5_leastWithTheMost 96 = .ok (.imul, 1) := by decide +kernel
theorem dX5_leastWithTheMost_97 : decode cX5_leastWithTheMost 97 = .ok (.isub, 1) := by decide +kernel
theorem dX5_leastWithTheMost_98 : decode cX5_leastWithTheMost 98 = .ok (.iload_n 3, 1) := by decide +kernel
theorem dX5_leastWithTheMost_99 : decode cX5_leastWithTheMost 99 = .ok (.if_icmp .ne 6, 3) := by decide +kernel
theorem dX5_leastWithTheMost_102 : decode cX5_leastWithTheMost 102 = .ok (.iload 4, 2) := by decide +kernel
theorem dX5_leastWithTheMost_104 : decode cX5_leastWithTheMost 104 = .ok (.ireturn, 1) := by decide +kernel
theorem dX5_leastWithTheMost_105 : decode cX5_leastWithTheMost 105 = .ok (.iinc 4 1, 3) := by decide +kernel
theorem dX5_leastWithTheMost_108 : decode cX5_leastWithTheMost 108 = .ok (.goto (-90), 3) := by decide +kernel
theorem dX5_leastWithTheMost_111 : decode cX5_leastWithTheMost 111 = .ok (.aload_n 0, 1) := by decide +kernel
theorem dX5_leastWithTheMost_112 : decode cX5_leastWithTheMost 112 = .ok (.getfield 40, 3) := by decide +kernel
theorem dX5_leastWithTheMost_115 : decode cX5_leastWithTheMost 115 = .ok (.iconst 1, 1) := by decide +kernel
theorem dX5_leastWithTheMost_116 : decode cX5_leastWithTheMost 116 = .ok (.invokevirtual 49, 3) := by decide +kernel
theorem dX5_leastWithTheMost_119 : decode cX5_leastWithTheMost 119 = .ok (.ireturn, 1) := by decide +kernel
theorem dX6_init_0 : decode cX6_init 0 = .ok (.aload_n 0, 1) := by decide +kernel
theorem dX6_init_1 : decode cX6_init 1 = .ok (.invokespecial 1, 3) := by decide +kernel
theorem dX6_init_4 : decode cX6_init 4 = .ok (.aload_n 0, 1) := by decide +kernel
theorem dX6_init_5 : decode cX6_init 5 = .ok (.new 7, 3) := by decide +kernel
theorem dX6_init_8 : decode cX6_init 8 = .ok (.dup, 1) := by decide +kernel
theorem dX6_init_9 : decode cX6_init 9 = .ok (.invokespecial 9, 3) := by decide +kernel
theorem dX6_init_12 : decode cX6_init 12 = .ok (.putfield 10, 3) := by decide +kernel
theorem dX6_init_15 : decode cX6_init 15 = .ok (.aload_n 0, 1) := by decide +kernel
theorem dX6_init_16 : decode cX6_init 16 = .ok (.new 16, 3) := by decide +kernel
theorem dX6_init_19 : decode cX6_init 19 = .ok (.dup, 1) := by decide +kernel
theorem dX6_init_20 : decode cX6_init 20 = .ok (.aload_n 0, 1) := by decide +kernel
theorem dX6_init_21 : decode cX6_init 21 = .ok (.getfield 10, 3) := by decide +kernel
theorem dX6_init_24 : decode cX6_init 24 = .ok (.invokespecial 18, 3) := by decide +kernel
theorem dX6_init_27 : decode cX6_init 27 = .ok (.putfield 21, 3) := by decide +kernel
theorem dX6_init_30 : decode cX6_init 30 = .ok (.aload_n 0, 1) := by decide +kernel
theorem dX6_init_31 : decode cX6_init 31 = .ok (.new 25, 3) := by decide +kernel
theorem dX6_init_34 : decode cX6_init 34 = .ok (.dup, 1) := by decide +kernel
theorem dX6_init_35 : decode cX6_init 35 = .ok (.aload_n 0, 1) := by decide +kernel
theorem dX6_init_36 : decode cX6_init 36 = .ok (.getfield 10, 3) := by decide +kernel
theorem dX6_init_39 : decode cX6_init 39 = .ok (.invokespecial 27, 3) := by decide +kernel
theorem dX6_init_42 : decode cX6_init 42 = .ok (.putfield 28, 3) := by decide +kernel
theorem dX6_init_45 : decode cX6_init 45 = .ok (.aload_n 0, 1) := by decide +kernel
theorem dX6_init_46 : decode cX6_init 46 = .ok (.new 32, 3) := by decide +kernel
theorem dX6_init_49 : decode cX6_init 49 = .ok (.dup, 1) := by decide +kernel
theorem dX6_init_50 : decode cX6_init 50 = .ok (.invokespecial 34, 3) := by decide +kernel
theorem dX6_init_53 : decode cX6_init 53 = .ok (.putfield 35, 3) := by decide +kernel
theorem dX6_init_56 : decode cX6_init 56 = .ok (.aload_n 0, 1) := by decide +kernel
theorem dX6_init_57 : decode cX6_init 57 = .ok (.new 39, 3) := by decide +kernel
theorem dX6_init_60 : decode cX6_init 60 = .ok (.dup, 1) := by decide +kernel
theorem dX6_init_61 : decode cX6_init 61 = .ok (.aload_n 0, 1) := by decide +kernel
theorem dX6_init_62 : decode cX6_init 62 = .ok (.getfield 35, 3) := by decide +kernel
theorem dX6_init_65 : decode cX6_init 65 = .ok (.invokespecial 41, 3) := by decide +kernel
theorem dX6_init_68 : decode cX6_init 68 = .ok (.putfield 44, 3) := by decide +kernel
theorem dX6_init_71 : decode cX6_init 71 = .ok (.aload_n 0, 1) := by decide +kernel
theorem dX6_init_72 : decode cX6_init 72 = .ok (.new 48, 3) := by decide +kernel
theorem dX6_init_75 : decode cX6_init 75 = .ok (.dup, 1) := by decide +kernel
theorem dX6_init_76 : decode cX6_init 76 = .ok (.invokespecial 50, 3) := by decide +kernel
theorem dX6_init_79 : decode cX6_init 79 = .ok (.putfield 51, 3) := by decide +kernel
theorem dX6_init_82 : decode cX6_init 82 = .ok (.aload_n 0, 1) := by decide +kernel
theorem dX6_init_83 : decode cX6_init 83 = .ok (.iconst 2, 1) := by decide +kernel
theorem dX6_init_84 : decode cX6_init 84 = .ok (.bipush 115, 2) := by decide +kernel
theorem dX6_init_86 : decode cX6_init 86 = .ok (.multianewarray 55 2, 4) := by decide +kernel
theorem dX6_init_90 : decode cX6_init 90 = .ok (.putfield 57, 3) := by decide +kernel
theorem dX6_init_93 : decode cX6_init 93 = .ok (.aload_n 0, 1) := by decide +kernel
theorem dX6_init_94 : decode cX6_init 94 = .ok (.iconst 2, 1) := by decide +kernel
theorem dX6_init_95 : decode cX6_init 95 = .ok (.newarray .boolean, 2) := by decide +kernel
theorem dX6_init_97 : decode cX6_init 97 = .ok (.putfield 60, 3) := by decide +kernel
theorem dX6_init_100 : decode cX6_init 100 = .ok (.return_, 1) := by decide +kernel
theorem dX6_set_0 : decode cX6_set 0 = .ok (.aload_n 0, 1) := by decide +kernel
theorem dX6_set_1 : decode cX6_set 1 = .ok (.getfield 51, 3) := by decide +kernel
theorem dX6_set_4 : decode cX6_set 4 = .ok (.aload_n 0, 1) := by decide +kernel
theorem dX6_set_5 : decode cX6_set 5 = .ok (.getfield 10, 3) := by decide +kernel
theorem dX6_set_8 : decode cX6_set 8 = .ok (.invokevirtual 64, 3) := by decide +kernel
theorem dX6_set_11 : decode cX6_set 11 = .ok (.aload_n 0, 1) := by decide +kernel
theorem dX6_set_12 : decode cX6_set 12 = .ok (.getfield 51, 3) := by decide +kernel
theorem dX6_set_15 : decode cX6_set 15 = .ok (.aload_n 0, 1) := by decide +kernel
theorem dX6_set_16 : decode cX6_set 16 = .ok (.getfield 10, 3) := by decide +kernel
theorem dX6_set_19 : decode cX6_set 19 = .ok (.iload_n 1, 1) := by decide +kernel
theorem dX6_set_20 : decode cX6_set 20 = .ok (.iload_n 2, 1) := by decide +kernel
theorem dX6_set_21 : decode cX6_set 21 = .ok (.invokevirtual 67, 3) := by decide +kernel
theorem dX6_set_24 : decode cX6_set 24 = .ok (.invokevirtual 71, 3) := by decide +kernel
theorem dX6_set_27 : decode cX6_set 27 = .ok (.ireturn, 1) := by decide +kernel
theorem dX6_price_0 : decode cX6_price 0 = .ok (.aload_n 0, 1) := by decide +kernel
theorem dX6_price_1 : decode cX6_price 1 = .ok (.getfield 51, 3) := by decide +kernel
theorem dX6_price_4 : decode cX6_price 4 = .ok (.aload_n 0, 1) := by decide +kernel
theorem dX6_price_5 : decode cX6_price 5 = .ok (.getfield 10, 3) := by decide +kernel
theorem dX6_price_8 : decode cX6_price 8 = .ok (.invokevirtual 64, 3) := by decide +kernel
theorem dX6_price_11 : decode cX6_price 11 = .ok (.aload_n 0, 1) := by decide +kernel
theorem dX6_price_12 : decode cX6_price 12 = .ok (.getfield 51, 3) := by decide +kernel
theorem dX6_price_15 : decode cX6_price 15 = .ok (.aload_n 0, 1) := by decide +kernel
theorem dX6_price_16 : decode cX6_price 16 = .ok (.getfield 10, 3) := by decide +kernel
theorem dX6_price_19 : decode cX6_price 19 = .ok (.iload_n 1, 1) := by decide +kernel
theorem dX6_price_20 : decode cX6_price 20 = .ok (.iload_n 2, 1) := by decide +kernel
theorem dX6_price_21 : decode cX6_price 21 = .ok (.invokevirtual 75, 3) := by decide +kernel
theorem dX6_price_24 : decode cX6_price 24 = .ok (.invokevirtual 71, 3) := by decide +kernel
theorem dX6_price_27 : decode cX6_price 27 = .ok (.ireturn, 1) := by decide +kernel
theorem dX6_inflow_0 : decode cX6_inflow 0 = .ok (.aload_n 0, 1) := by decide +kernel
theorem dX6_inflow_1 : decode cX6_inflow 1 = .ok (.getfield 51, 3) := by decide +kernel
theorem dX6_inflow_4 : decode cX6_inflow 4 = .ok (.aload_n 0, 1) := by decide +kernel
theorem dX6_inflow_5 : decode cX6_inflow 5 = .ok (.getfield 10, 3) := by decide +kernel
theorem dX6_inflow_8 : decode cX6_inflow 8 = .ok (.invokevirtual 64, 3) := by decide +kernel
theorem dX6_inflow_11 : decode cX6_inflow 11 = .ok (.aload_n 0, 1) := by decide +kernel
theorem dX6_inflow_12 : decode cX6_inflow 12 = .ok (.getfield 51, 3) := by decide +kernel
theorem dX6_inflow_15 : decode cX6_inflow 15 = .ok (.aload_n 0, 1) := by decide +kernel
theorem dX6_inflow_16 : decode cX6_inflow 16 = .ok (.getfield 10, 3) := by decide +kernel
theorem dX6_inflow_19 : decode cX6_inflow 19 = .ok (.iload_n 1, 1) := by decide +kernel
theorem dX6_inflow_20 : decode cX6_inflow 20 = .ok (.iload_n 2, 1) := by decide +kernel
theorem dX6_inflow_21 : decode cX6_inflow 21 = .ok (.invokevirtual 78, 3) := by decide +kernel
theorem dX6_inflow_24 : decode cX6_inflow 24 = .ok (.invokevirtual 71, 3) := by decide +kernel
theorem dX6_inflow_27 : decode cX6_inflow 27 = .ok (.ireturn, 1) := by decide +kernel
theorem dX6_plan_0 : decode cX6_plan 0 = .ok (.aload_n 0, 1) := by decide +kernel
theorem dX6_plan_1 : decode cX6_plan 1 = .ok (.getfield 51, 3) := by decide +kernel
theorem dX6_plan_4 : decode cX6_plan 4 = .ok (.aload_n 0, 1) := by decide +kernel
theorem dX6_plan_5 : decode cX6_plan 5 = .ok (.getfield 10, 3) := by decide +kernel
theorem dX6_plan_8 : decode cX6_plan 8 = .ok (.invokevirtual 64, 3) := by decide +kernel
theorem dX6_plan_11 : decode cX6_plan 11 = .ok (.aload_n 0, 1) := by decide +kernel
theorem dX6_plan_12 : decode cX6_plan 12 = .ok (.getfield 51, 3) := by decide +kernel
theorem dX6_plan_15 : decode cX6_plan 15 = .ok (.aload_n 0, 1) := by decide +kernel
theorem dX6_plan_16 : decode cX6_plan 16 = .ok (.getfield 10, 3) := by decide +kernel
theorem dX6_plan_19 : decode cX6_plan 19 = .ok (.iload_n 1, 1) := by decide +kernel
theorem dX6_plan_20 : decode cX6_plan 20 = .ok (.iload_n 2, 1) := by decide +kernel
theorem dX6_plan_21 : decode cX6_plan 21 = .ok (.invokevirtual 81, 3) := by decide +kernel
theorem dX6_plan_24 : decode cX6_plan 24 = .ok (.invokevirtual 71, 3) := by decide +kernel
theorem dX6_plan_27 : decode cX6_plan 27 = .ok (.ireturn, 1) := by decide +kernel
theorem dX6_contract_0 : decode cX6_contract 0 = .ok (.aload_n 0, 1) := by decide +kernel
