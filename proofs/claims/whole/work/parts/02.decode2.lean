theorem dGR_gather_20 : decode cGR_gather 20 = .ok (.iload_n 3, 1) := by decide +kernel
theorem dGR_gather_21 : decode cGR_gather 21 = .ok (.aload_n 0, 1) := by decide +kernel
theorem dGR_gather_22 : decode cGR_gather 22 = .ok (.getfield 35, 3) := by decide +kernel
theorem dGR_gather_25 : decode cGR_gather 25 = .ok (.if_icmp .ge 90, 3) := by decide +kernel
theorem dGR_gather_28 : decode cGR_gather 28 = .ok (.aload_n 1, 1) := by decide +kernel
theorem dGR_gather_29 : decode cGR_gather 29 = .ok (.getfield 38, 3) := by decide +kernel
theorem dGR_gather_32 : decode cGR_gather 32 = .ok (.iload_n 3, 1) := by decide +kernel
theorem dGR_gather_33 : decode cGR_gather 33 = .ok (.iaload, 1) := by decide +kernel
theorem dGR_gather_34 : decode cGR_gather 34 = .ok (.istore 4, 2) := by decide +kernel
theorem dGR_gather_36 : decode cGR_gather 36 = .ok (.iload 4, 2) := by decide +kernel
theorem dGR_gather_38 : decode cGR_gather 38 = .ok (.iload_n 3, 1) := by decide +kernel
theorem dGR_gather_39 : decode cGR_gather 39 = .ok (.if_icmp .ne 11, 3) := by decide +kernel
theorem dGR_gather_42 : decode cGR_gather 42 = .ok (.aload_n 0, 1) := by decide +kernel
theorem dGR_gather_43 : decode cGR_gather 43 = .ok (.iload_n 3, 1) := by decide +kernel
theorem dGR_gather_44 : decode cGR_gather 44 = .ok (.invokevirtual 39, 3) := by decide +kernel
theorem dGR_gather_47 : decode cGR_gather 47 = .ok (.goto 9, 3) := by decide +kernel
theorem dGR_gather_50 : decode cGR_gather 50 = .ok (.aload_n 0, 1) := by decide +kernel
theorem dGR_gather_51 : decode cGR_gather 51 = .ok (.iload 4, 2) := by decide +kernel
theorem dGR_gather_53 : decode cGR_gather 53 = .ok (.invokevirtual 43, 3) := by decide +kernel
theorem dGR_gather_56 : decode cGR_gather 56 = .ok (.istore 5, 2) := by decide +kernel
theorem dGR_gather_58 : decode cGR_gather 58 = .ok (.aload_n 0, 1) := by decide +kernel
theorem dGR_gather_59 : decode cGR_gather 59 = .ok (.getfield 21, 3) := by decide +kernel
theorem dGR_gather_62 : decode cGR_gather 62 = .ok (.iload_n 3, 1) := by decide +kernel
theorem dGR_gather_63 : decode cGR_gather 63 = .ok (.iload 5, 2) := by decide +kernel
theorem dGR_gather_65 : decode cGR_gather 65 = .ok (.iastore, 1) := by decide +kernel
theorem dGR_gather_66 : decode cGR_gather 66 = .ok (.iload 5, 2) := by decide +kernel
theorem dGR_gather_68 : decode cGR_gather 68 = .ok (.ifCond .lt 41, 3) := by decide +kernel
theorem dGR_gather_71 : decode cGR_gather 71 = .ok (.iload 5, 2) := by decide +kernel
theorem dGR_gather_73 : decode cGR_gather 73 = .ok (.aload_n 0, 1) := by decide +kernel
theorem dGR_gather_74 : decode cGR_gather 74 = .ok (.getfield 30, 3) := by decide +kernel
theorem dGR_gather_77 : decode cGR_gather 77 = .ok (.if_icmp .ge 32, 3) := by decide +kernel
theorem dGR_gather_80 : decode cGR_gather 80 = .ok (.aload_n 0, 1) := by decide +kernel
theorem dGR_gather_81 : decode cGR_gather 81 = .ok (.getfield 15, 3) := by decide +kernel
theorem dGR_gather_84 : decode cGR_gather 84 = .ok (.iload 5, 2) := by decide +kernel
theorem dGR_gather_86 : decode cGR_gather 86 = .ok (.dup2, 1) := by decide +kernel
theorem dGR_gather_87 : decode cGR_gather 87 = .ok (.iaload, 1) := by decide +kernel
theorem dGR_gather_88 : decode cGR_gather 88 = .ok (.aload_n 1, 1) := by decide +kernel
theorem dGR_gather_89 : decode cGR_gather 89 = .ok (.getfield 46, 3) := by decide +kernel
theorem dGR_gather_92 : decode cGR_gather 92 = .ok (.iload_n 3, 1) := by decide +kernel
theorem dGR_gather_93 : decode cGR_gather 93 = .ok (.iaload, 1) := by decide +kernel
theorem dGR_gather_94 : decode cGR_gather 94 = .ok (.ifCond .ne 7, 3) := by decide +kernel
theorem dGR_gather_97 : decode cGR_gather 97 = .ok (.iload_n 2, 1) := by decide +kernel
theorem dGR_gather_98 : decode cGR_gather 98 = .ok (.goto 9, 3) := by decide +kernel
theorem dGR_gather_101 : decode cGR_gather 101 = .ok (.aload_n 1, 1) := by decide +kernel
theorem dGR_gather_102 : decode cGR_gather 102 = .ok (.getfield 46, 3) := by decide +kernel
theorem dGR_gather_105 : decode cGR_gather 105 = .ok (.iload_n 3, 1) := by decide +kernel
theorem dGR_gather_106 : decode cGR_gather 106 = .ok (.iaload, 1) := by decide +kernel
theorem dGR_gather_107 : decode cGR_gather 107 = .ok (.iadd, 1) := by decide +kernel
theorem dGR_gather_108 : decode cGR_gather 108 = .ok (.iastore, 1) := by decide +kernel
theorem dGR_gather_109 : decode cGR_gather 109 = .ok (.iinc 3 1, 3) := by decide +kernel
theorem dGR_gather_112 : decode cGR_gather 112 = .ok (.goto (-92), 3) := by decide +kernel
theorem dGR_gather_115 : decode cGR_gather 115 = .ok (.return_, 1) := by decide +kernel
theorem dGR_open_0 : decode cGR_open 0 = .ok (.aload_n 0, 1) := by decide +kernel
theorem dGR_open_1 : decode cGR_open 1 = .ok (.getfield 30, 3) := by decide +kernel
theorem dGR_open_4 : decode cGR_open 4 = .ok (.istore_n 2, 1) := by decide +kernel
theorem dGR_open_5 : decode cGR_open 5 = .ok (.aload_n 0, 1) := by decide +kernel
theorem dGR_open_6 : decode cGR_open 6 = .ok (.getfield 9, 3) := by decide +kernel
theorem dGR_open_9 : decode cGR_open 9 = .ok (.iload_n 2, 1) := by decide +kernel
theorem dGR_open_10 : decode cGR_open 10 = .ok (.iload_n 1, 1) := by decide +kernel
theorem dGR_open_11 : decode cGR_open 11 = .ok (.iastore, 1) := by decide +kernel
theorem dGR_open_12 : decode cGR_open 12 = .ok (.aload_n 0, 1) := by decide +kernel
theorem dGR_open_13 : decode cGR_open 13 = .ok (.getfield 15, 3) := by decide +kernel
theorem dGR_open_16 : decode cGR_open 16 = .ok (.iload_n 2, 1) := by decide +kernel
theorem dGR_open_17 : decode cGR_open 17 = .ok (.iconst 0, 1) := by decide +kernel
theorem dGR_open_18 : decode cGR_open 18 = .ok (.iastore, 1) := by decide +kernel
theorem dGR_open_19 : decode cGR_open 19 = .ok (.aload_n 0, 1) := by decide +kernel
theorem dGR_open_20 : decode cGR_open 20 = .ok (.getfield 18, 3) := by decide +kernel
theorem dGR_open_23 : decode cGR_open 23 = .ok (.iload_n 2, 1) := by decide +kernel
theorem dGR_open_24 : decode cGR_open 24 = .ok (.iconst (-1), 1) := by decide +kernel
theorem dGR_open_25 : decode cGR_open 25 = .ok (.iastore, 1) := by decide +kernel
theorem dGR_open_26 : decode cGR_open 26 = .ok (.aload_n 0, 1) := by decide +kernel
theorem dGR_open_27 : decode cGR_open 27 = .ok (.dup, 1) := by decide +kernel
theorem dGR_open_28 : decode cGR_open 28 = .ok (.getfield 30, 3) := by decide +kernel
theorem dGR_open_31 : decode cGR_open 31 = .ok (.iconst 1, 1) := by decide +kernel
theorem dGR_open_32 : decode cGR_open 32 = .ok (.iadd, 1) := by decide +kernel
theorem dGR_open_33 : decode cGR_open 33 = .ok (.putfield 30, 3) := by decide +kernel
theorem dGR_open_36 : decode cGR_open 36 = .ok (.iload_n 2, 1) := by decide +kernel
theorem dGR_open_37 : decode cGR_open 37 = .ok (.ireturn, 1) := by decide +kernel
theorem dGR_groupAt_0 : decode cGR_groupAt 0 = .ok (.iload_n 1, 1) := by decide +kernel
theorem dGR_groupAt_1 : decode cGR_groupAt 1 = .ok (.ifCond .lt 20, 3) := by decide +kernel
theorem dGR_groupAt_4 : decode cGR_groupAt 4 = .ok (.iload_n 1, 1) := by decide +kernel
theorem dGR_groupAt_5 : decode cGR_groupAt 5 = .ok (.aload_n 0, 1) := by decide +kernel
theorem dGR_groupAt_6 : decode cGR_groupAt 6 = .ok (.getfield 35, 3) := by decide +kernel
theorem dGR_groupAt_9 : decode cGR_groupAt 9 = .ok (.if_icmp .ge 12, 3) := by decide +kernel
theorem dGR_groupAt_12 : decode cGR_groupAt 12 = .ok (.aload_n 0, 1) := by decide +kernel
theorem dGR_groupAt_13 : decode cGR_groupAt 13 = .ok (.getfield 21, 3) := by decide +kernel
theorem dGR_groupAt_16 : decode cGR_groupAt 16 = .ok (.iload_n 1, 1) := by decide +kernel
theorem dGR_groupAt_17 : decode cGR_groupAt 17 = .ok (.iaload, 1) := by decide +kernel
theorem dGR_groupAt_18 : decode cGR_groupAt 18 = .ok (.goto 4, 3) := by decide +kernel
theorem dGR_groupAt_21 : decode cGR_groupAt 21 = .ok (.iconst (-1), 1) := by decide +kernel
theorem dGR_groupAt_22 : decode cGR_groupAt 22 = .ok (.ireturn, 1) := by decide +kernel
theorem dSE_place_0 : decode cSE_place 0 = .ok (.aload_n 0, 1) := by decide +kernel
theorem dSE_place_1 : decode cSE_place 1 = .ok (.iload_n 3, 1) := by decide +kernel
theorem dSE_place_2 : decode cSE_place 2 = .ok (.iconst 4, 1) := by decide +kernel
theorem dSE_place_3 : decode cSE_place 3 = .ok (.invokestatic 32, 3) := by decide +kernel
theorem dSE_place_6 : decode cSE_place 6 = .ok (.putfield 38, 3) := by decide +kernel
theorem dSE_place_9 : decode cSE_place 9 = .ok (.aload_n 0, 1) := by decide +kernel
theorem dSE_place_10 : decode cSE_place 10 = .ok (.aload_n 1, 1) := by decide +kernel
theorem dSE_place_11 : decode cSE_place 11 = .ok (.getfield 42, 3) := by decide +kernel
theorem dSE_place_14 : decode cSE_place 14 = .ok (.bipush 8, 2) := by decide +kernel
theorem dSE_place_16 : decode cSE_place 16 = .ok (.invokestatic 32, 3) := by decide +kernel
theorem dSE_place_19 : decode cSE_place 19 = .ok (.putfield 47, 3) := by decide +kernel
theorem dSE_place_22 : decode cSE_place 22 = .ok (.aload_n 1, 1) := by decide +kernel
theorem dSE_place_23 : decode cSE_place 23 = .ok (.getfield 50, 3) := by decide +kernel
theorem dSE_place_26 : decode cSE_place 26 = .ok (.iconst 0, 1) := by decide +kernel
theorem dSE_place_27 : decode cSE_place 27 = .ok (.aload_n 0, 1) := by decide +kernel
theorem dSE_place_28 : decode cSE_place 28 = .ok (.getfield 9, 3) := by decide +kernel
theorem dSE_place_31 : decode cSE_place 31 = .ok (.iconst 0, 1) := by decide +kernel
theorem dSE_place_32 : decode cSE_place 32 = .ok (.aload_n 0, 1) := by decide +kernel
theorem dSE_place_33 : decode cSE_place 33 = .ok (.getfield 47, 3) := by decide +kernel
theorem dSE_place_36 : decode cSE_place 36 = .ok (.invokestatic 51, 3) := by decide +kernel
theorem dSE_place_39 : decode cSE_place 39 = .ok (.aload_n 0, 1) := by decide +kernel
theorem dSE_place_40 : decode cSE_place 40 = .ok (.aload_n 1, 1) := by decide +kernel
theorem dSE_place_41 : decode cSE_place 41 = .ok (.aload_n 2, 1) := by decide +kernel
theorem dSE_place_42 : decode cSE_place 42 = .ok (.invokevirtual 57, 3) := by decide +kernel
theorem dSE_place_45 : decode cSE_place 45 = .ok (.aload_n 0, 1) := by decide +kernel
theorem dSE_place_46 : decode cSE_place 46 = .ok (.invokevirtual 61, 3) := by decide +kernel
theorem dSE_place_49 : decode cSE_place 49 = .ok (.aload_n 0, 1) := by decide +kernel
theorem dSE_place_50 : decode cSE_place 50 = .ok (.getfield 15, 3) := by decide +kernel
theorem dSE_place_53 : decode cSE_place 53 = .ok (.iconst 0, 1) := by decide +kernel
theorem dSE_place_54 : decode cSE_place 54 = .ok (.invokestatic 64, 3) := by decide +kernel
theorem dSE_place_57 : decode cSE_place 57 = .ok (.aload_n 0, 1) := by decide +kernel
theorem dSE_place_58 : decode cSE_place 58 = .ok (.ldc 72, 2) := by decide +kernel
theorem dSE_place_60 : decode cSE_place 60 = .ok (.putfield 73, 3) := by decide +kernel
theorem dSE_place_63 : decode cSE_place 63 = .ok (.aload_n 0, 1) := by decide +kernel
theorem dSE_place_64 : decode cSE_place 64 = .ok (.iconst 0, 1) := by decide +kernel
theorem dSE_place_65 : decode cSE_place 65 = .ok (.iconst 0, 1) := by decide +kernel
theorem dSE_place_66 : decode cSE_place 66 = .ok (.iconst 0, 1) := by decide +kernel
theorem dSE_place_67 : decode cSE_place 67 = .ok (.invokevirtual 76, 3) := by decide +kernel
theorem dSE_place_70 : decode cSE_place 70 = .ok (.aload_n 0, 1) := by decide +kernel
theorem dSE_place_71 : decode cSE_place 71 = .ok (.ldc 72, 2) := by decide +kernel
theorem dSE_place_73 : decode cSE_place 73 = .ok (.putfield 80, 3) := by decide +kernel
theorem dSE_place_76 : decode cSE_place 76 = .ok (.aload_n 0, 1) := by decide +kernel
theorem dSE_place_77 : decode cSE_place 77 = .ok (.iconst 0, 1) := by decide +kernel
theorem dSE_place_78 : decode cSE_place 78 = .ok (.iconst 0, 1) := by decide +kernel
theorem dSE_place_79 : decode cSE_place 79 = .ok (.invokevirtual 83, 3) := by decide +kernel
theorem dSE_place_82 : decode cSE_place 82 = .ok (.aload_n 0, 1) := by decide +kernel
theorem dSE_place_83 : decode cSE_place 83 = .ok (.getfield 21, 3) := by decide +kernel
theorem dSE_place_86 : decode cSE_place 86 = .ok (.iconst 0, 1) := by decide +kernel
theorem dSE_place_87 : decode cSE_place 87 = .ok (.aload_n 1, 1) := by decide +kernel
theorem dSE_place_88 : decode cSE_place 88 = .ok (.getfield 87, 3) := by decide +kernel
theorem dSE_place_91 : decode cSE_place 91 = .ok (.iconst 0, 1) := by decide +kernel
theorem dSE_place_92 : decode cSE_place 92 = .ok (.aload_n 0, 1) := by decide +kernel
theorem dSE_place_93 : decode cSE_place 93 = .ok (.getfield 47, 3) := by decide +kernel
theorem dSE_place_96 : decode cSE_place 96 = .ok (.invokestatic 51, 3) := by decide +kernel
theorem dSE_place_99 : decode cSE_place 99 = .ok (.return_, 1) := by decide +kernel
theorem dSE_countMoves_0 : decode cSE_countMoves 0 = .ok (.iconst 0, 1) := by decide +kernel
theorem dSE_countMoves_1 : decode cSE_countMoves 1 = .ok (.istore_n 3, 1) := by decide +kernel
theorem dSE_countMoves_2 : decode cSE_countMoves 2 = .ok (.iload_n 3, 1) := by decide +kernel
theorem dSE_countMoves_3 : decode cSE_countMoves 3 = .ok (.aload_n 0, 1) := by decide +kernel
theorem dSE_countMoves_4 : decode cSE_countMoves 4 = .ok (.getfield 47, 3) := by decide +kernel
theorem dSE_countMoves_7 : decode cSE_countMoves 7 = .ok (.if_icmp .ge 73, 3) := by decide +kernel
theorem dSE_countMoves_10 : decode cSE_countMoves 10 = .ok (.aload_n 0, 1) := by decide +kernel
theorem dSE_countMoves_11 : decode cSE_countMoves 11 = .ok (.getfield 26, 3) := by decide +kernel
theorem dSE_countMoves_14 : decode cSE_countMoves 14 = .ok (.iload_n 3, 1) := by decide +kernel
theorem dSE_countMoves_15 : decode cSE_countMoves 15 = .ok (.aaload, 1) := by decide +kernel
theorem dSE_countMoves_16 : decode cSE_countMoves 16 = .ok (.iconst 0, 1) := by decide +kernel
theorem dSE_countMoves_17 : decode cSE_countMoves 17 = .ok (.invokestatic 64, 3) := by decide +kernel
theorem dSE_countMoves_20 : decode cSE_countMoves 20 = .ok (.aload_n 1, 1) := by decide +kernel
theorem dSE_countMoves_21 : decode cSE_countMoves 21 = .ok (.getfield 90, 3) := by decide +kernel
theorem dSE_countMoves_24 : decode cSE_countMoves 24 = .ok (.iload_n 3, 1) := by decide +kernel
theorem dSE_countMoves_25 : decode cSE_countMoves 25 = .ok (.iaload, 1) := by decide +kernel
theorem dSE_countMoves_26 : decode cSE_countMoves 26 = .ok (.istore 4, 2) := by decide +kernel
theorem dSE_countMoves_28 : decode cSE_countMoves 28 = .ok (.iload 4, 2) := by decide +kernel
theorem dSE_countMoves_30 : decode cSE_countMoves 30 = .ok (.aload_n 1, 1) := by decide +kernel
theorem dSE_countMoves_31 : decode cSE_countMoves 31 = .ok (.getfield 93, 3) := by decide +kernel
theorem dSE_countMoves_34 : decode cSE_countMoves 34 = .ok (.if_icmp .ge 40, 3) := by decide +kernel
theorem dSE_countMoves_37 : decode cSE_countMoves 37 = .ok (.aload_n 2, 1) := by decide +kernel
theorem dSE_countMoves_38 : decode cSE_countMoves 38 = .ok (.iload 4, 2) := by decide +kernel
theorem dSE_countMoves_40 : decode cSE_countMoves 40 = .ok (.invokevirtual 96, 3) := by decide +kernel
theorem dSE_countMoves_43 : decode cSE_countMoves 43 = .ok (.istore 5, 2) := by decide +kernel
theorem dSE_countMoves_45 : decode cSE_countMoves 45 = .ok (.iload 5, 2) := by decide +kernel
theorem dSE_countMoves_47 : decode cSE_countMoves 47 = .ok (.iconst (-1), 1) := by decide +kernel
theorem dSE_countMoves_48 : decode cSE_countMoves 48 = .ok (.if_icmp .eq 20, 3) := by decide +kernel
theorem dSE_countMoves_51 : decode cSE_countMoves 51 = .ok (.aload_n 1, 1) := by decide +kernel
theorem dSE_countMoves_52 : decode cSE_countMoves 52 = .ok (.iload 4, 2) := by decide +kernel
theorem dSE_countMoves_54 : decode cSE_countMoves 54 = .ok (.invokevirtual 102, 3) := by decide +kernel
theorem dSE_countMoves_57 : decode cSE_countMoves 57 = .ok (.iload_n 3, 1) := by decide +kernel
theorem dSE_countMoves_58 : decode cSE_countMoves 58 = .ok (.if_icmp .ne 10, 3) := by decide +kernel
theorem dSE_countMoves_61 : decode cSE_countMoves 61 = .ok (.aload_n 0, 1) := by decide +kernel
theorem dSE_countMoves_62 : decode cSE_countMoves 62 = .ok (.iload_n 3, 1) := by decide +kernel
theorem dSE_countMoves_63 : decode cSE_countMoves 63 = .ok (.iload 5, 2) := by decide +kernel
theorem dSE_countMoves_65 : decode cSE_countMoves 65 = .ok (.invokevirtual 105, 3) := by decide +kernel
theorem dSE_countMoves_68 : decode cSE_countMoves 68 = .ok (.iinc 4 1, 3) := by decide +kernel
theorem dSE_countMoves_71 : decode cSE_countMoves 71 = .ok (.goto (-43), 3) := by decide +kernel
theorem dSE_countMoves_74 : decode cSE_countMoves 74 = .ok (.iinc 3 1, 3) := by decide +kernel
theorem dSE_countMoves_77 : decode cSE_countMoves 77 = .ok (.goto (-75), 3) := by decide +kernel
theorem dSE_countMoves_80 : decode cSE_countMoves 80 = .ok (.return_, 1) := by decide +kernel
theorem dSP_shardAt_0 : decode cSP_shardAt 0 = .ok (.iload_n 1, 1) := by decide +kernel
theorem dSP_shardAt_1 : decode cSP_shardAt 1 = .ok (.invokestatic 31, 3) := by decide +kernel
theorem dSP_shardAt_4 : decode cSP_shardAt 4 = .ok (.ifCond .eq 12, 3) := by decide +kernel
theorem dSP_shardAt_7 : decode cSP_shardAt 7 = .ok (.aload_n 0, 1) := by decide +kernel
theorem dSP_shardAt_8 : decode cSP_shardAt 8 = .ok (.getfield 18, 3) := by decide +kernel
theorem dSP_shardAt_11 : decode cSP_shardAt 11 = .ok (.iload_n 1, 1) := by decide +kernel
theorem dSP_shardAt_12 : decode cSP_shardAt 12 = .ok (.iaload, 1) := by decide +kernel
theorem dSP_shardAt_13 : decode cSP_shardAt 13 = .ok (.goto 4, 3) := by decide +kernel
theorem dSP_shardAt_16 : decode cSP_shardAt 16 = .ok (.iconst (-1), 1) := by decide +kernel
theorem dSP_shardAt_17 : decode cSP_shardAt 17 = .ok (.ireturn, 1) := by decide +kernel
theorem dSR_isTestNumber_0 : decode cSR_isTestNumber 0 = .ok (.iload_n 0, 1) := by decide +kernel
theorem dSR_isTestNumber_1 : decode cSR_isTestNumber 1 = .ok (.ifCond .lt 13, 3) := by decide +kernel
theorem dSR_isTestNumber_4 : decode cSR_isTestNumber 4 = .ok (.iload_n 0, 1) := by decide +kernel
theorem dSR_isTestNumber_5 : decode cSR_isTestNumber 5 = .ok (.bipush 24, 2) := by decide +kernel
theorem dSR_isTestNumber_7 : decode cSR_isTestNumber 7 = .ok (.if_icmp .ge 7, 3) := by decide +kernel
theorem dSR_isTestNumber_10 : decode cSR_isTestNumber 10 = .ok (.iconst 1, 1) := by decide +kernel
theorem dSR_isTestNumber_11 : decode cSR_isTestNumber 11 = .ok (.goto 4, 3) := by decide +kernel
theorem dSR_isTestNumber_14 : decode cSR_isTestNumber 14 = .ok (.iconst 0, 1) := by decide +kernel
theorem dSR_isTestNumber_15 : decode cSR_isTestNumber 15 = .ok (.ireturn, 1) := by decide +kernel
theorem dSE_addMove_0 : decode cSE_addMove 0 = .ok (.iconst 0, 1) := by decide +kernel
theorem dSE_addMove_1 : decode cSE_addMove 1 = .ok (.istore_n 3, 1) := by decide +kernel
theorem dSE_addMove_2 : decode cSE_addMove 2 = .ok (.iload_n 3, 1) := by decide +kernel
theorem dSE_addMove_3 : decode cSE_addMove 3 = .ok (.aload_n 0, 1) := by decide +kernel
theorem dSE_addMove_4 : decode cSE_addMove 4 = .ok (.getfield 38, 3) := by decide +kernel
theorem dSE_addMove_7 : decode cSE_addMove 7 = .ok (.if_icmp .ge 30, 3) := by decide +kernel
theorem dSE_addMove_10 : decode cSE_addMove 10 = .ok (.aload_n 0, 1) := by decide +kernel
theorem dSE_addMove_11 : decode cSE_addMove 11 = .ok (.getfield 26, 3) := by decide +kernel
theorem dSE_addMove_14 : decode cSE_addMove 14 = .ok (.iload_n 1, 1) := by decide +kernel
theorem dSE_addMove_15 : decode cSE_addMove 15 = .ok (.aaload, 1) := by decide +kernel
theorem dSE_addMove_16 : decode cSE_addMove 16 = .ok (.iload_n 3, 1) := by decide +kernel
theorem dSE_addMove_17 : decode cSE_addMove 17 = .ok (.dup2, 1) := by decide +kernel
theorem dSE_addMove_18 : decode cSE_addMove 18 = .ok (.iaload, 1) := by decide +kernel
theorem dSE_addMove_19 : decode cSE_addMove 19 = .ok (.iload_n 3, 1) := by decide +kernel
theorem dSE_addMove_20 : decode cSE_addMove 20 = .ok (.iload_n 2, 1) := by decide +kernel
theorem dSE_addMove_21 : decode cSE_addMove 21 = .ok (.if_icmp .ne 7, 3) := by decide +kernel
theorem dSE_addMove_24 : decode cSE_addMove 24 = .ok (.iconst 0, 1) := by decide +kernel
theorem dSE_addMove_25 : decode cSE_addMove 25 = .ok (.goto 4, 3) := by decide +kernel
theorem dSE_addMove_28 : decode cSE_addMove 28 = .ok (.iconst 1, 1) := by decide +kernel
theorem dSE_addMove_29 : decode cSE_addMove 29 = .ok (.iadd, 1) := by decide +kernel
theorem dSE_addMove_30 : decode cSE_addMove 30 = .ok (.iastore, 1) := by decide +kernel
theorem dSE_addMove_31 : decode cSE_addMove 31 = .ok (.iinc 3 1, 3) := by decide +kernel
theorem dSE_addMove_34 : decode cSE_addMove 34 = .ok (.goto (-32), 3) := by decide +kernel
theorem dSE_addMove_37 : decode cSE_addMove 37 = .ok (.return_, 1) := by decide +kernel
theorem dSE_sumLeastMoves_0 : decode cSE_sumLeastMoves 0 = .ok (.aload_n 0, 1) := by decide +kernel
theorem dSE_sumLeastMoves_1 : decode cSE_sumLeastMoves 1 = .ok (.getfield 29, 3) := by decide +kernel
theorem dSE_sumLeastMoves_4 : decode cSE_sumLeastMoves 4 = .ok (.aload_n 0, 1) := by decide +kernel
theorem dSE_sumLeastMoves_5 : decode cSE_sumLeastMoves 5 = .ok (.getfield 47, 3) := by decide +kernel
theorem dSE_sumLeastMoves_8 : decode cSE_sumLeastMoves 8 = .ok (.iconst 0, 1) := by decide +kernel
theorem dSE_sumLeastMoves_9 : decode cSE_sumLeastMoves 9 = .ok (.iastore, 1) := by decide +kernel
theorem dSE_sumLeastMoves_10 : decode cSE_sumLeastMoves 10 = .ok (.aload_n 0, 1) := by decide +kernel
theorem dSE_sumLeastMoves_11 : decode cSE_sumLeastMoves 11 = .ok (.getfield 47, 3) := by decide +kernel
theorem dSE_sumLeastMoves_14 : decode cSE_sumLeastMoves 14 = .ok (.iconst 1, 1) := by decide +kernel
theorem dSE_sumLeastMoves_15 : decode cSE_sumLeastMoves 15 = .ok (.isub, 1) := by decide +kernel
theorem dSE_sumLeastMoves_16 : decode cSE_sumLeastMoves 16 = .ok (.istore_n 1, 1) := by decide +kernel
theorem dSE_sumLeastMoves_17 : decode cSE_sumLeastMoves 17 = .ok (.iload_n 1, 1) := by decide +kernel
theorem dSE_sumLeastMoves_18 : decode cSE_sumLeastMoves 18 = .ok (.ifCond .lt 63, 3) := by decide +kernel
theorem dSE_sumLeastMoves_21 : decode cSE_sumLeastMoves 21 = .ok (.aload_n 0, 1) := by decide +kernel
theorem dSE_sumLeastMoves_22 : decode cSE_sumLeastMoves 22 = .ok (.getfield 26, 3) := by decide +kernel
theorem dSE_sumLeastMoves_25 : decode cSE_sumLeastMoves 25 = .ok (.iload_n 1, 1) := by decide +kernel
theorem dSE_sumLeastMoves_26 : decode cSE_sumLeastMoves 26 = .ok (.aaload, 1) := by decide +kernel
theorem dSE_sumLeastMoves_27 : decode cSE_sumLeastMoves 27 = .ok (.iconst 0, 1) := by decide +kernel
theorem dSE_sumLeastMoves_28 : decode cSE_sumLeastMoves 28 = .ok (.iaload, 1) := by decide +kernel
theorem dSE_sumLeastMoves_29 : decode cSE_sumLeastMoves 29 = .ok (.istore_n 2, 1) := by decide +kernel
theorem dSE_sumLeastMoves_30 : decode cSE_sumLeastMoves 30 = .ok (.iconst 1, 1) := by decide +kernel
theorem dSE_sumLeastMoves_31 : decode cSE_sumLeastMoves 31 = .ok (.istore_n 3, 1) := by decide +kernel
theorem dSE_sumLeastMoves_32 : decode cSE_sumLeastMoves 32 = .ok (.iload_n 3, 1) := by decide +kernel
theorem dSE_sumLeastMoves_33 : decode cSE_sumLeastMoves 33 = .ok (.aload_n 0, 1) := by decide +kernel
theorem dSE_sumLeastMoves_34 : decode cSE_sumLeastMoves 34 = .ok (.getfield 38, 3) := by decide +kernel
theorem dSE_sumLeastMoves_37 : decode cSE_sumLeastMoves 37 = .ok (.if_icmp .ge 22, 3) := by decide +kernel
theorem dSE_sumLeastMoves_40 : decode cSE_sumLeastMoves 40 = .ok (.iload_n 2, 1) := by decide +kernel
theorem dSE_sumLeastMoves_41 : decode cSE_sumLeastMoves 41 = .ok (.aload_n 0, 1) := by decide +kernel
theorem dSE_sumLeastMoves_42 : decode cSE_sumLeastMoves 42 = .ok (.getfield 26, 3) := by decide +kernel
theorem dSE_sumLeastMoves_45 : decode cSE_sumLeastMoves 45 = .ok (.iload_n 1, 1) := by decide +kernel
theorem dSE_sumLeastMoves_46 : decode cSE_sumLeastMoves 46 = .ok (.aaload, 1) := by decide +kernel
theorem dSE_sumLeastMoves_47 : decode cSE_sumLeastMoves 47 = .ok (.iload_n 3, 1) := by decide +kernel
theorem dSE_sumLeastMoves_48 : decode cSE_sumLeastMoves 48 = .ok (.iaload, 1) := by decide +kernel
theorem dSE_sumLeastMoves_49 : decode cSE_sumLeastMoves 49 = .ok (.invokestatic 32, 3) := by decide +kernel
theorem dSE_sumLeastMoves_52 : decode cSE_sumLeastMoves 52 = .ok (.istore_n 2, 1) := by decide +kernel
theorem dSE_sumLeastMoves_53 : decode cSE_sumLeastMoves 53 = .ok (.iinc 3 1, 3) := by decide +kernel
theorem dSE_sumLeastMoves_56 : decode cSE_sumLeastMoves 56 = .ok (.goto (-24), 3) := by decide +kernel
theorem dSE_sumLeastMoves_59 : decode cSE_sumLeastMoves 59 = .ok (.aload_n 0, 1) := by decide +kernel
theorem dSE_sumLeastMoves_60 : decode cSE_sumLeastMoves 60 = .ok (.getfield 29, 3) := by decide +kernel
theorem dSE_sumLeastMoves_63 : decode cSE_sumLeastMoves 63 = .ok (.iload_n 1, 1) := by decide +kernel
theorem dSE_sumLeastMoves_64 : decode cSE_sumLeastMoves 64 = .ok (.aload_n 0, 1) := by decide +kernel
theorem dSE_sumLeastMoves_65 : decode cSE_sumLeastMoves 65 = .ok (.getfield 29, 3) := by decide +kernel
theorem dSE_sumLeastMoves_68 : decode cSE_sumLeastMoves 68 = .ok (.iload_n 1, 1) := by decide +kernel
theorem dSE_sumLeastMoves_69 : decode cSE_sumLeastMoves 69 = .ok (.iconst 1, 1) := by decide +kernel
theorem dSE_sumLeastMoves_70 : decode cSE_sumLeastMoves 70 = .ok (.iadd, 1) := by decide +kernel
theorem dSE_sumLeastMoves_71 : decode cSE_sumLeastMoves 71 = .ok (.iaload, 1) := by decide +kernel
theorem dSE_sumLeastMoves_72 : decode cSE_sumLeastMoves 72 = .ok (.iload_n 2, 1) := by decide +kernel
theorem dSE_sumLeastMoves_73 : decode cSE_sumLeastMoves 73 = .ok (.iadd, 1) := by decide +kernel
theorem dSE_sumLeastMoves_74 : decode cSE_sumLeastMoves 74 = .ok (.iastore, 1) := by decide +kernel
theorem dSE_sumLeastMoves_75 : decode cSE_sumLeastMoves 75 = .ok (.iinc 1 (-1), 3) := by decide +kernel
theorem dSE_sumLeastMoves_78 : decode cSE_sumLeastMoves 78 = .ok (.goto (-61), 3) := by decide +kernel
theorem dSE_sumLeastMoves_81 : decode cSE_sumLeastMoves 81 = .ok (.return_, 1) := by decide +kernel
theorem dSE_seekLength_0 : decode cSE_seekLength 0 = .ok (.iload_n 3, 1) := by decide +kernel
theorem dSE_seekLength_1 : decode cSE_seekLength 1 = .ok (.aload_n 0, 1) := by decide +kernel
theorem dSE_seekLength_2 : decode cSE_seekLength 2 = .ok (.getfield 73, 3) := by decide +kernel
theorem dSE_seekLength_5 : decode cSE_seekLength 5 = .ok (.if_icmp .lt 4, 3) := by decide +kernel
theorem dSE_seekLength_8 : decode cSE_seekLength 8 = .ok (.return_, 1) := by decide +kernel
theorem dSE_seekLength_9 : decode cSE_seekLength 9 = .ok (.iload_n 1, 1) := by decide +kernel
theorem dSE_seekLength_10 : decode cSE_seekLength 10 = .ok (.aload_n 0, 1) := by decide +kernel
theorem dSE_seekLength_11 : decode cSE_seekLength 11 = .ok (.getfield 47, 3) := by decide +kernel
theorem dSE_seekLength_14 : decode cSE_seekLength 14 = .ok (.if_icmp .lt 9, 3) := by decide +kernel
theorem dSE_seekLength_17 : decode cSE_seekLength 17 = .ok (.aload_n 0, 1) := by decide +kernel
theorem dSE_seekLength_18 : decode cSE_seekLength 18 = .ok (.iload_n 3, 1) := by decide +kernel
theorem dSE_seekLength_19 : decode cSE_seekLength 19 = .ok (.putfield 73, 3) := by decide +kernel
theorem dSE_seekLength_22 : decode cSE_seekLength 22 = .ok (.return_, 1) := by decide +kernel
theorem dSE_seekLength_23 : decode cSE_seekLength 23 = .ok (.iload_n 2, 1) := by decide +kernel
theorem dSE_seekLength_24 : decode cSE_seekLength 24 = .ok (.iconst 1, 1) := by decide +kernel
theorem dSE_seekLength_25 : decode cSE_seekLength 25 = .ok (.iadd, 1) := by decide +kernel
theorem dSE_seekLength_26 : decode cSE_seekLength 26 = .ok (.aload_n 0, 1) := by decide +kernel
theorem dSE_seekLength_27 : decode cSE_seekLength 27 = .ok (.getfield 38, 3) := by decide +kernel
theorem dSE_seekLength_30 : decode cSE_seekLength 30 = .ok (.invokestatic 32, 3) := by decide +kernel
theorem dSE_seekLength_33 : decode cSE_seekLength 33 = .ok (.istore 4, 2) := by decide +kernel
theorem dSE_seekLength_35 : decode cSE_seekLength 35 = .ok (.iconst 0, 1) := by decide +kernel
theorem dSE_seekLength_36 : decode cSE_seekLength 36 = .ok (.istore 5, 2) := by decide +kernel
theorem dSE_seekLength_38 : decode cSE_seekLength 38 = .ok (.iload 5, 2) := by decide +kernel
theorem dSE_seekLength_40 : decode cSE_seekLength 40 = .ok (.iload 4, 2) := by decide +kernel
theorem dSE_seekLength_42 : decode cSE_seekLength 42 = .ok (.if_icmp .ge 67, 3) := by decide +kernel
theorem dSE_seekLength_45 : decode cSE_seekLength 45 = .ok (.aload_n 0, 1) := by decide +kernel
theorem dSE_seekLength_46 : decode cSE_seekLength 46 = .ok (.getfield 15, 3) := by decide +kernel
theorem dSE_seekLength_49 : decode cSE_seekLength 49 = .ok (.iload 5, 2) := by decide +kernel
theorem dSE_seekLength_51 : decode cSE_seekLength 51 = .ok (.dup2, 1) := by decide +kernel
theorem dSE_seekLength_52 : decode cSE_seekLength 52 = .ok (.iaload, 1) := by decide +kernel
theorem dSE_seekLength_53 : decode cSE_seekLength 53 = .ok (.aload_n 0, 1) := by decide +kernel
theorem dSE_seekLength_54 : decode cSE_seekLength 54 = .ok (.getfield 9, 3) := by decide +kernel
theorem dSE_seekLength_57 : decode cSE_seekLength 57 = .ok (.iload_n 1, 1) := by decide +kernel
theorem dSE_seekLength_58 : decode cSE_seekLength 58 = .ok (.iaload, 1) := by decide +kernel
theorem dSE_seekLength_59 : decode cSE_seekLength 59 = .ok (.iadd, 1) := by decide +kernel
theorem dSE_seekLength_60 : decode cSE_seekLength 60 = .ok (.iastore, 1) := by decide +kernel
theorem dSE_seekLength_61 : decode cSE_seekLength 61 = .ok (.aload_n 0, 1) := by decide +kernel
theorem dSE_seekLength_62 : decode cSE_seekLength 62 = .ok (.iload_n 1, 1) := by decide +kernel
theorem dSE_seekLength_63 : decode cSE_seekLength 63 = .ok (.iconst 1, 1) := by decide +kernel
theorem dSE_seekLength_64 : decode cSE_seekLength 64 = .ok (.iadd, 1) := by decide +kernel
theorem dSE_seekLength_65 : decode cSE_seekLength 65 = .ok (.iload_n 2, 1) := by decide +kernel
theorem dSE_seekLength_66 : decode cSE_seekLength 66 = .ok (.iload 5, 2) := by decide +kernel
theorem dSE_seekLength_68 : decode cSE_seekLength 68 = .ok (.iconst 1, 1) := by decide +kernel
theorem dSE_seekLength_69 : decode cSE_seekLength 69 = .ok (.iadd, 1) := by decide +kernel
theorem dSE_seekLength_70 : decode cSE_seekLength 70 = .ok (.invokestatic 108, 3) := by decide +kernel
theorem dSE_seekLength_73 : decode cSE_seekLength 73 = .ok (.iload_n 3, 1) := by decide +kernel
theorem dSE_seekLength_74 : decode cSE_seekLength 74 = .ok (.aload_n 0, 1) := by decide +kernel
theorem dSE_seekLength_75 : decode cSE_seekLength 75 = .ok (.getfield 15, 3) := by decide +kernel
theorem dSE_seekLength_78 : decode cSE_seekLength 78 = .ok (.iload 5, 2) := by decide +kernel
theorem dSE_seekLength_80 : decode cSE_seekLength 80 = .ok (.iaload, 1) := by decide +kernel
theorem dSE_seekLength_81 : decode cSE_seekLength 81 = .ok (.invokestatic 108, 3) := by decide +kernel
theorem dSE_seekLength_84 : decode cSE_seekLength 84 = .ok (.invokevirtual 76, 3) := by decide +kernel
theorem dSE_seekLength_87 : decode cSE_seekLength 87 = .ok (.aload_n 0, 1) := by decide +kernel
theorem dSE_seekLength_88 : decode cSE_seekLength 88 = .ok (.getfield 15, 3) := by decide +kernel
theorem dSE_seekLength_91 : decode cSE_seekLength 91 = .ok (.iload 5, 2) := by decide +kernel
theorem dSE_seekLength_93 : decode cSE_seekLength 93 = .ok (.dup2, 1) := by decide +kernel
theorem dSE_seekLength_94 : decode cSE_seekLength 94 = .ok (.iaload, 1) := by decide +kernel
theorem dSE_seekLength_95 : decode cSE_seekLength 95 = .ok (.aload_n 0, 1) := by decide +kernel
theorem dSE_seekLength_96 : decode cSE_seekLength 96 = .ok (.getfield 9, 3) := by decide +kernel
theorem dSE_seekLength_99 : decode cSE_seekLength 99 = .ok (.iload_n 1, 1) := by decide +kernel
theorem dSE_seekLength_100 : decode cSE_seekLength 100 = .ok (.iaload, 1) := by decide +kernel
theorem dSE_seekLength_101 : decode cSE_seekLength 101 = .ok (.isub, 1) := by decide +kernel
theorem dSE_seekLength_102 : decode cSE_seekLength 102 = .ok (.iastore, 1) := by decide +kernel
theorem dSE_seekLength_103 : decode cSE_seekLength 103 = .ok (.iinc 5 1, 3) := by decide +kernel
theorem dSE_seekLength_106 : decode cSE_seekLength 106 = .ok (.goto (-68), 3) := by decide +kernel
theorem dSE_seekLength_109 : decode cSE_seekLength 109 = .ok (.return_, 1) := by decide +kernel
theorem dSE_seekShards_0 : decode cSE_seekShards 0 = .ok (.iload_n 2, 1) := by decide +kernel
theorem dSE_seekShards_1 : decode cSE_seekShards 1 = .ok (.aload_n 0, 1) := by decide +kernel
theorem dSE_seekShards_2 : decode cSE_seekShards 2 = .ok (.getfield 29, 3) := by decide +kernel
theorem dSE_seekShards_5 : decode cSE_seekShards 5 = .ok (.iload_n 1, 1) := by decide +kernel
theorem dSE_seekShards_6 : decode cSE_seekShards 6 = .ok (.iaload, 1) := by decide +kernel
theorem dSE_seekShards_7 : decode cSE_seekShards 7 = .ok (.iadd, 1) := by decide +kernel
theorem dSE_seekShards_8 : decode cSE_seekShards 8 = .ok (.aload_n 0, 1) := by decide +kernel
theorem dSE_seekShards_9 : decode cSE_seekShards 9 = .ok (.getfield 80, 3) := by decide +kernel
theorem dSE_seekShards_12 : decode cSE_seekShards 12 = .ok (.if_icmp .lt 4, 3) := by decide +kernel
theorem dSE_seekShards_15 : decode cSE_seekShards 15 = .ok (.return_, 1) := by decide +kernel
theorem dSE_seekShards_16 : decode cSE_seekShards 16 = .ok (.iload_n 1, 1) := by decide +kernel
theorem dSE_seekShards_17 : decode cSE_seekShards 17 = .ok (.aload_n 0, 1) := by decide +kernel
theorem dSE_seekShards_18 : decode cSE_seekShards 18 = .ok (.getfield 47, 3) := by decide +kernel
theorem dSE_seekShards_21 : decode cSE_seekShards 21 = .ok (.if_icmp .lt 26, 3) := by decide +kernel
theorem dSE_seekShards_24 : decode cSE_seekShards 24 = .ok (.aload_n 0, 1) := by decide +kernel
theorem dSE_seekShards_25 : decode cSE_seekShards 25 = .ok (.iload_n 2, 1) := by decide +kernel
theorem dSE_seekShards_26 : decode cSE_seekShards 26 = .ok (.putfield 80, 3) := by decide +kernel
theorem dSE_seekShards_29 : decode cSE_seekShards 29 = .ok (.aload_n 0, 1) := by decide +kernel
theorem dSE_seekShards_30 : decode cSE_seekShards 30 = .ok (.getfield 18, 3) := by decide +kernel
theorem dSE_seekShards_33 : decode cSE_seekShards 33 = .ok (.iconst 0, 1) := by decide +kernel
theorem dSE_seekShards_34 : decode cSE_seekShards 34 = .ok (.aload_n 0, 1) := by decide +kernel
theorem dSE_seekShards_35 : decode cSE_seekShards 35 = .ok (.getfield 21, 3) := by decide +kernel
theorem dSE_seekShards_38 : decode cSE_seekShards 38 = .ok (.iconst 0, 1) := by decide +kernel
theorem dSE_seekShards_39 : decode cSE_seekShards 39 = .ok (.aload_n 0, 1) := by decide +kernel
theorem dSE_seekShards_40 : decode cSE_seekShards 40 = .ok (.getfield 47, 3) := by decide +kernel
theorem dSE_seekShards_43 : decode cSE_seekShards 43 = .ok (.invokestatic 51, 3) := by decide +kernel
theorem dSE_seekShards_46 : decode cSE_seekShards 46 = .ok (.return_, 1) := by decide +kernel
theorem dSE_seekShards_47 : decode cSE_seekShards 47 = .ok (.iconst 0, 1) := by decide +kernel
theorem dSE_seekShards_48 : decode cSE_seekShards 48 = .ok (.istore_n 3, 1) := by decide +kernel
theorem dSE_seekShards_49 : decode cSE_seekShards 49 = .ok (.iload_n 3, 1) := by decide +kernel
theorem dSE_seekShards_50 : decode cSE_seekShards 50 = .ok (.aload_n 0, 1) := by decide +kernel
theorem dSE_seekShards_51 : decode cSE_seekShards 51 = .ok (.getfield 38, 3) := by decide +kernel
theorem dSE_seekShards_54 : decode cSE_seekShards 54 = .ok (.if_icmp .ge 83, 3) := by decide +kernel
theorem dSE_seekShards_57 : decode cSE_seekShards 57 = .ok (.aload_n 0, 1) := by decide +kernel
theorem dSE_seekShards_58 : decode cSE_seekShards 58 = .ok (.getfield 15, 3) := by decide +kernel
theorem dSE_seekShards_61 : decode cSE_seekShards 61 = .ok (.iload_n 3, 1) := by decide +kernel
theorem dSE_seekShards_62 : decode cSE_seekShards 62 = .ok (.iaload, 1) := by decide +kernel
theorem dSE_seekShards_63 : decode cSE_seekShards 63 = .ok (.aload_n 0, 1) := by decide +kernel
theorem dSE_seekShards_64 : decode cSE_seekShards 64 = .ok (.getfield 9, 3) := by decide +kernel
theorem dSE_seekShards_67 : decode cSE_seekShards 67 = .ok (.iload_n 1, 1) := by decide +kernel
theorem dSE_seekShards_68 : decode cSE_seekShards 68 = .ok (.iaload, 1) := by decide +kernel
theorem dSE_seekShards_69 : decode cSE_seekShards 69 = .ok (.iadd, 1) := by decide +kernel
theorem dSE_seekShards_70 : decode cSE_seekShards 70 = .ok (.aload_n 0, 1) := by decide +kernel
theorem dSE_seekShards_71 : decode cSE_seekShards 71 = .ok (.getfield 73, 3) := by decide +kernel
theorem dSE_seekShards_74 : decode cSE_seekShards 74 = .ok (.if_icmp .gt 57, 3) := by decide +kernel
theorem dSE_seekShards_77 : decode cSE_seekShards 77 = .ok (.aload_n 0, 1) := by decide +kernel
theorem dSE_seekShards_78 : decode cSE_seekShards 78 = .ok (.getfield 15, 3) := by decide +kernel
theorem dSE_seekShards_81 : decode cSE_seekShards 81 = .ok (.iload_n 3, 1) := by decide +kernel
theorem dSE_seekShards_82 : decode cSE_seekShards 82 = .ok (.dup2, 1) := by decide +kernel
theorem dSE_seekShards_83 : decode cSE_seekShards 83 = .ok (.iaload, 1) := by decide +kernel
theorem dSE_seekShards_84 : decode cSE_seekShards 84 = .ok (.aload_n 0, 1) := by decide +kernel
theorem dSE_seekShards_85 : decode cSE_seekShards 85 = .ok (.getfield 9, 3) := by decide +kernel
theorem dSE_seekShards_88 : decode cSE_seekShards 88 = .ok (.iload_n 1, 1) := by decide +kernel
theorem dSE_seekShards_89 : decode cSE_seekShards 89 = .ok (.iaload, 1) := by decide +kernel
theorem dSE_seekShards_90 : decode cSE_seekShards 90 = .ok (.iadd, 1) := by decide +kernel
theorem dSE_seekShards_91 : decode cSE_seekShards 91 = .ok (.iastore, 1) := by decide +kernel
theorem dSE_seekShards_92 : decode cSE_seekShards 92 = .ok (.aload_n 0, 1) := by decide +kernel
theorem dSE_seekShards_93 : decode cSE_seekShards 93 = .ok (.getfield 18, 3) := by decide +kernel
theorem dSE_seekShards_96 : decode cSE_seekShards 96 = .ok (.iload_n 1, 1) := by decide +kernel
theorem dSE_seekShards_97 : decode cSE_seekShards 97 = .ok (.iload_n 3, 1) := by decide +kernel
theorem dSE_seekShards_98 : decode cSE_seekShards 98 = .ok (.iastore, 1) := by decide +kernel
theorem dSE_seekShards_99 : decode cSE_seekShards 99 = .ok (.aload_n 0, 1) := by decide +kernel
theorem dSE_seekShards_100 : decode cSE_seekShards 100 = .ok (.iload_n 1, 1) := by decide +kernel
theorem dSE_seekShards_101 : decode cSE_seekShards 101 = .ok (.iconst 1, 1) := by decide +kernel
theorem dSE_seekShards_102 : decode cSE_seekShards 102 = .ok (.iadd, 1) := by decide +kernel
theorem dSE_seekShards_103 : decode cSE_seekShards 103 = .ok (.iload_n 2, 1) := by decide +kernel
theorem dSE_seekShards_104 : decode cSE_seekShards 104 = .ok (.aload_n 0, 1) := by decide +kernel
theorem dSE_seekShards_105 : decode cSE_seekShards 105 = .ok (.getfield 26, 3) := by decide +kernel
theorem dSE_seekShards_108 : decode cSE_seekShards 108 = .ok (.iload_n 1, 1) := by decide +kernel
theorem dSE_seekShards_109 : decode cSE_seekShards 109 = .ok (.aaload, 1) := by decide +kernel
theorem dSE_seekShards_110 : decode cSE_seekShards 110 = .ok (.iload_n 3, 1) := by decide +kernel
theorem dSE_seekShards_111 : decode cSE_seekShards 111 = .ok (.iaload, 1) := by decide +kernel
theorem dSE_seekShards_112 : decode cSE_seekShards 112 = .ok (.iadd, 1) := by decide +kernel
theorem dSE_seekShards_113 : decode cSE_seekShards 113 = .ok (.invokevirtual 83, 3) := by decide +kernel
theorem dSE_seekShards_116 : decode cSE_seekShards 116 = .ok (.aload_n 0, 1) := by decide +kernel
theorem dSE_seekShards_117 : decode cSE_seekShards 117 = .ok (.getfield 15, 3) := by decide +kernel
theorem dSE_seekShards_120 : decode cSE_seekShards 120 = .ok (.iload_n 3, 1) := by decide +kernel
theorem dSE_seekShards_121 : decode cSE_seekShards 121 = .ok (.dup2, 1) := by decide +kernel
theorem dSE_seekShards_122 : decode cSE_seekShards 122 = .ok (.iaload, 1) := by decide +kernel
theorem dSE_seekShards_123 : decode cSE_seekShards 123 = .ok (.aload_n 0, 1) := by decide +kernel
theorem dSE_seekShards_124 : decode cSE_seekShards 124 = .ok (.getfield 9, 3) := by decide +kernel
theorem dSE_seekShards_127 : decode cSE_seekShards 127 = .ok (.iload_n 1, 1) := by decide +kernel
theorem dSE_seekShards_128 : decode cSE_seekShards 128 = .ok (.iaload, 1) := by decide +kernel
theorem dSE_seekShards_129 : decode cSE_seekShards 129 = .ok (.isub, 1) := by decide +kernel
theorem dSE_seekShards_130 : decode cSE_seekShards 130 = .ok (.iastore, 1) := by decide +kernel
theorem dSE_seekShards_131 : decode cSE_seekShards 131 = .ok (.iinc 3 1, 3) := by decide +kernel
theorem dSE_seekShards_134 : decode cSE_seekShards 134 = .ok (.goto (-85), 3) := by decide +kernel
theorem dSE_seekShards_137 : decode cSE_seekShards 137 = .ok (.return_, 1) := by decide +kernel
theorem dGY_place_0 : decode cGY_place 0 = .ok (.aload_n 0, 1) := by decide +kernel
theorem dGY_place_1 : decode cGY_place 1 = .ok (.iload_n 3, 1) := by decide +kernel
theorem dGY_place_2 : decode cGY_place 2 = .ok (.iconst 4, 1) := by decide +kernel
theorem dGY_place_3 : decode cGY_place 3 = .ok (.invokestatic 15, 3) := by decide +kernel
theorem dGY_place_6 : decode cGY_place 6 = .ok (.putfield 21, 3) := by decide +kernel
theorem dGY_place_9 : decode cGY_place 9 = .ok (.aload_n 0, 1) := by decide +kernel
theorem dGY_place_10 : decode cGY_place 10 = .ok (.getfield 9, 3) := by decide +kernel
theorem dGY_place_13 : decode cGY_place 13 = .ok (.iconst 0, 1) := by decide +kernel
theorem dGY_place_14 : decode cGY_place 14 = .ok (.invokestatic 25, 3) := by decide +kernel
theorem dGY_place_17 : decode cGY_place 17 = .ok (.iconst 0, 1) := by decide +kernel
theorem dGY_place_18 : decode cGY_place 18 = .ok (.istore 4, 2) := by decide +kernel
theorem dGY_place_20 : decode cGY_place 20 = .ok (.iload 4, 2) := by decide +kernel
theorem dGY_place_22 : decode cGY_place 22 = .ok (.aload_n 1, 1) := by decide +kernel
