theorem dGY_place_23 : decode cGY_place 23 = .ok (.getfield 31, 3) := by decide +kernel
theorem dGY_place_26 : decode cGY_place 26 = .ok (.if_icmp .ge 58, 3) := by decide +kernel
theorem dGY_place_29 : decode cGY_place 29 = .ok (.aload_n 1, 1) := by decide +kernel
theorem dGY_place_30 : decode cGY_place 30 = .ok (.invokestatic 36, 3) := by decide +kernel
theorem dGY_place_33 : decode cGY_place 33 = .ok (.istore 5, 2) := by decide +kernel
theorem dGY_place_35 : decode cGY_place 35 = .ok (.aload_n 0, 1) := by decide +kernel
theorem dGY_place_36 : decode cGY_place 36 = .ok (.aload_n 2, 1) := by decide +kernel
theorem dGY_place_37 : decode cGY_place 37 = .ok (.aload_n 1, 1) := by decide +kernel
theorem dGY_place_38 : decode cGY_place 38 = .ok (.getfield 40, 3) := by decide +kernel
theorem dGY_place_41 : decode cGY_place 41 = .ok (.iload 5, 2) := by decide +kernel
theorem dGY_place_43 : decode cGY_place 43 = .ok (.iaload, 1) := by decide +kernel
theorem dGY_place_44 : decode cGY_place 44 = .ok (.invokevirtual 43, 3) := by decide +kernel
theorem dGY_place_47 : decode cGY_place 47 = .ok (.invokevirtual 49, 3) := by decide +kernel
theorem dGY_place_50 : decode cGY_place 50 = .ok (.istore 6, 2) := by decide +kernel
theorem dGY_place_52 : decode cGY_place 52 = .ok (.aload_n 1, 1) := by decide +kernel
theorem dGY_place_53 : decode cGY_place 53 = .ok (.getfield 52, 3) := by decide +kernel
theorem dGY_place_56 : decode cGY_place 56 = .ok (.iload 5, 2) := by decide +kernel
theorem dGY_place_58 : decode cGY_place 58 = .ok (.iload 6, 2) := by decide +kernel
theorem dGY_place_60 : decode cGY_place 60 = .ok (.iastore, 1) := by decide +kernel
theorem dGY_place_61 : decode cGY_place 61 = .ok (.aload_n 0, 1) := by decide +kernel
theorem dGY_place_62 : decode cGY_place 62 = .ok (.getfield 9, 3) := by decide +kernel
theorem dGY_place_65 : decode cGY_place 65 = .ok (.iload 6, 2) := by decide +kernel
theorem dGY_place_67 : decode cGY_place 67 = .ok (.dup2, 1) := by decide +kernel
theorem dGY_place_68 : decode cGY_place 68 = .ok (.iaload, 1) := by decide +kernel
theorem dGY_place_69 : decode cGY_place 69 = .ok (.aload_n 1, 1) := by decide +kernel
theorem dGY_place_70 : decode cGY_place 70 = .ok (.getfield 55, 3) := by decide +kernel
theorem dGY_place_73 : decode cGY_place 73 = .ok (.iload 5, 2) := by decide +kernel
theorem dGY_place_75 : decode cGY_place 75 = .ok (.iaload, 1) := by decide +kernel
theorem dGY_place_76 : decode cGY_place 76 = .ok (.iadd, 1) := by decide +kernel
theorem dGY_place_77 : decode cGY_place 77 = .ok (.iastore, 1) := by decide +kernel
theorem dGY_place_78 : decode cGY_place 78 = .ok (.iinc 4 1, 3) := by decide +kernel
theorem dGY_place_81 : decode cGY_place 81 = .ok (.goto (-61), 3) := by decide +kernel
theorem dGY_place_84 : decode cGY_place 84 = .ok (.return_, 1) := by decide +kernel
theorem dGY_longestUnplaced_0 : decode cGY_longestUnplaced 0 = .ok (.iconst 0, 1) := by decide +kernel
theorem dGY_longestUnplaced_1 : decode cGY_longestUnplaced 1 = .ok (.istore_n 1, 1) := by decide +kernel
theorem dGY_longestUnplaced_2 : decode cGY_longestUnplaced 2 = .ok (.iconst 0, 1) := by decide +kernel
theorem dGY_longestUnplaced_3 : decode cGY_longestUnplaced 3 = .ok (.istore_n 2, 1) := by decide +kernel
theorem dGY_longestUnplaced_4 : decode cGY_longestUnplaced 4 = .ok (.iconst 0, 1) := by decide +kernel
theorem dGY_longestUnplaced_5 : decode cGY_longestUnplaced 5 = .ok (.istore_n 3, 1) := by decide +kernel
theorem dGY_longestUnplaced_6 : decode cGY_longestUnplaced 6 = .ok (.iload_n 3, 1) := by decide +kernel
theorem dGY_longestUnplaced_7 : decode cGY_longestUnplaced 7 = .ok (.aload_n 0, 1) := by decide +kernel
theorem dGY_longestUnplaced_8 : decode cGY_longestUnplaced 8 = .ok (.getfield 31, 3) := by decide +kernel
theorem dGY_longestUnplaced_11 : decode cGY_longestUnplaced 11 = .ok (.if_icmp .ge 38, 3) := by decide +kernel
theorem dGY_longestUnplaced_14 : decode cGY_longestUnplaced 14 = .ok (.aload_n 0, 1) := by decide +kernel
theorem dGY_longestUnplaced_15 : decode cGY_longestUnplaced 15 = .ok (.getfield 52, 3) := by decide +kernel
theorem dGY_longestUnplaced_18 : decode cGY_longestUnplaced 18 = .ok (.iload_n 3, 1) := by decide +kernel
theorem dGY_longestUnplaced_19 : decode cGY_longestUnplaced 19 = .ok (.iaload, 1) := by decide +kernel
theorem dGY_longestUnplaced_20 : decode cGY_longestUnplaced 20 = .ok (.iconst (-1), 1) := by decide +kernel
theorem dGY_longestUnplaced_21 : decode cGY_longestUnplaced 21 = .ok (.if_icmp .ne 22, 3) := by decide +kernel
theorem dGY_longestUnplaced_24 : decode cGY_longestUnplaced 24 = .ok (.aload_n 0, 1) := by decide +kernel
theorem dGY_longestUnplaced_25 : decode cGY_longestUnplaced 25 = .ok (.getfield 55, 3) := by decide +kernel
theorem dGY_longestUnplaced_28 : decode cGY_longestUnplaced 28 = .ok (.iload_n 3, 1) := by decide +kernel
theorem dGY_longestUnplaced_29 : decode cGY_longestUnplaced 29 = .ok (.iaload, 1) := by decide +kernel
theorem dGY_longestUnplaced_30 : decode cGY_longestUnplaced 30 = .ok (.iload_n 2, 1) := by decide +kernel
theorem dGY_longestUnplaced_31 : decode cGY_longestUnplaced 31 = .ok (.if_icmp .le 12, 3) := by decide +kernel
theorem dGY_longestUnplaced_34 : decode cGY_longestUnplaced 34 = .ok (.iload_n 3, 1) := by decide +kernel
theorem dGY_longestUnplaced_35 : decode cGY_longestUnplaced 35 = .ok (.istore_n 1, 1) := by decide +kernel
theorem dGY_longestUnplaced_36 : decode cGY_longestUnplaced 36 = .ok (.aload_n 0, 1) := by decide +kernel
theorem dGY_longestUnplaced_37 : decode cGY_longestUnplaced 37 = .ok (.getfield 55, 3) := by decide +kernel
theorem dGY_longestUnplaced_40 : decode cGY_longestUnplaced 40 = .ok (.iload_n 3, 1) := by decide +kernel
theorem dGY_longestUnplaced_41 : decode cGY_longestUnplaced 41 = .ok (.iaload, 1) := by decide +kernel
theorem dGY_longestUnplaced_42 : decode cGY_longestUnplaced 42 = .ok (.istore_n 2, 1) := by decide +kernel
theorem dGY_longestUnplaced_43 : decode cGY_longestUnplaced 43 = .ok (.iinc 3 1, 3) := by decide +kernel
theorem dGY_longestUnplaced_46 : decode cGY_longestUnplaced 46 = .ok (.goto (-40), 3) := by decide +kernel
theorem dGY_longestUnplaced_49 : decode cGY_longestUnplaced 49 = .ok (.iload_n 1, 1) := by decide +kernel
theorem dGY_longestUnplaced_50 : decode cGY_longestUnplaced 50 = .ok (.ireturn, 1) := by decide +kernel
theorem dGY_leastShard_0 : decode cGY_leastShard 0 = .ok (.iconst 0, 1) := by decide +kernel
theorem dGY_leastShard_1 : decode cGY_leastShard 1 = .ok (.istore_n 2, 1) := by decide +kernel
theorem dGY_leastShard_2 : decode cGY_leastShard 2 = .ok (.iconst 1, 1) := by decide +kernel
theorem dGY_leastShard_3 : decode cGY_leastShard 3 = .ok (.istore_n 3, 1) := by decide +kernel
theorem dGY_leastShard_4 : decode cGY_leastShard 4 = .ok (.iload_n 3, 1) := by decide +kernel
theorem dGY_leastShard_5 : decode cGY_leastShard 5 = .ok (.aload_n 0, 1) := by decide +kernel
theorem dGY_leastShard_6 : decode cGY_leastShard 6 = .ok (.getfield 21, 3) := by decide +kernel
theorem dGY_leastShard_9 : decode cGY_leastShard 9 = .ok (.if_icmp .ge 26, 3) := by decide +kernel
theorem dGY_leastShard_12 : decode cGY_leastShard 12 = .ok (.aload_n 0, 1) := by decide +kernel
theorem dGY_leastShard_13 : decode cGY_leastShard 13 = .ok (.getfield 9, 3) := by decide +kernel
theorem dGY_leastShard_16 : decode cGY_leastShard 16 = .ok (.iload_n 3, 1) := by decide +kernel
theorem dGY_leastShard_17 : decode cGY_leastShard 17 = .ok (.iaload, 1) := by decide +kernel
theorem dGY_leastShard_18 : decode cGY_leastShard 18 = .ok (.aload_n 0, 1) := by decide +kernel
theorem dGY_leastShard_19 : decode cGY_leastShard 19 = .ok (.getfield 9, 3) := by decide +kernel
theorem dGY_leastShard_22 : decode cGY_leastShard 22 = .ok (.iload_n 2, 1) := by decide +kernel
theorem dGY_leastShard_23 : decode cGY_leastShard 23 = .ok (.iaload, 1) := by decide +kernel
theorem dGY_leastShard_24 : decode cGY_leastShard 24 = .ok (.if_icmp .ge 5, 3) := by decide +kernel
theorem dGY_leastShard_27 : decode cGY_leastShard 27 = .ok (.iload_n 3, 1) := by decide +kernel
theorem dGY_leastShard_28 : decode cGY_leastShard 28 = .ok (.istore_n 2, 1) := by decide +kernel
theorem dGY_leastShard_29 : decode cGY_leastShard 29 = .ok (.iinc 3 1, 3) := by decide +kernel
theorem dGY_leastShard_32 : decode cGY_leastShard 32 = .ok (.goto (-28), 3) := by decide +kernel
theorem dGY_leastShard_35 : decode cGY_leastShard 35 = .ok (.iload_n 1, 1) := by decide +kernel
theorem dGY_leastShard_36 : decode cGY_leastShard 36 = .ok (.ifCond .lt 30, 3) := by decide +kernel
theorem dGY_leastShard_39 : decode cGY_leastShard 39 = .ok (.iload_n 1, 1) := by decide +kernel
theorem dGY_leastShard_40 : decode cGY_leastShard 40 = .ok (.aload_n 0, 1) := by decide +kernel
theorem dGY_leastShard_41 : decode cGY_leastShard 41 = .ok (.getfield 21, 3) := by decide +kernel
theorem dGY_leastShard_44 : decode cGY_leastShard 44 = .ok (.if_icmp .ge 22, 3) := by decide +kernel
theorem dGY_leastShard_47 : decode cGY_leastShard 47 = .ok (.aload_n 0, 1) := by decide +kernel
theorem dGY_leastShard_48 : decode cGY_leastShard 48 = .ok (.getfield 9, 3) := by decide +kernel
theorem dGY_leastShard_51 : decode cGY_leastShard 51 = .ok (.iload_n 1, 1) := by decide +kernel
theorem dGY_leastShard_52 : decode cGY_leastShard 52 = .ok (.iaload, 1) := by decide +kernel
theorem dGY_leastShard_53 : decode cGY_leastShard 53 = .ok (.aload_n 0, 1) := by decide +kernel
theorem dGY_leastShard_54 : decode cGY_leastShard 54 = .ok (.getfield 9, 3) := by decide +kernel
theorem dGY_leastShard_57 : decode cGY_leastShard 57 = .ok (.iload_n 2, 1) := by decide +kernel
theorem dGY_leastShard_58 : decode cGY_leastShard 58 = .ok (.iaload, 1) := by decide +kernel
theorem dGY_leastShard_59 : decode cGY_leastShard 59 = .ok (.if_icmp .ne 7, 3) := by decide +kernel
theorem dGY_leastShard_62 : decode cGY_leastShard 62 = .ok (.iconst 1, 1) := by decide +kernel
theorem dGY_leastShard_63 : decode cGY_leastShard 63 = .ok (.goto 4, 3) := by decide +kernel
theorem dGY_leastShard_66 : decode cGY_leastShard 66 = .ok (.iconst 0, 1) := by decide +kernel
theorem dGY_leastShard_67 : decode cGY_leastShard 67 = .ok (.istore_n 3, 1) := by decide +kernel
theorem dGY_leastShard_68 : decode cGY_leastShard 68 = .ok (.iload_n 3, 1) := by decide +kernel
theorem dGY_leastShard_69 : decode cGY_leastShard 69 = .ok (.ifCond .eq 7, 3) := by decide +kernel
theorem dGY_leastShard_72 : decode cGY_leastShard 72 = .ok (.iload_n 1, 1) := by decide +kernel
theorem dGY_leastShard_73 : decode cGY_leastShard 73 = .ok (.goto 4, 3) := by decide +kernel
theorem dGY_leastShard_76 : decode cGY_leastShard 76 = .ok (.iload_n 2, 1) := by decide +kernel
theorem dGY_leastShard_77 : decode cGY_leastShard 77 = .ok (.ireturn, 1) := by decide +kernel
theorem dSP_take_0 : decode cSP_take 0 = .ok (.aload_n 0, 1) := by decide +kernel
theorem dSP_take_1 : decode cSP_take 1 = .ok (.iload_n 2, 1) := by decide +kernel
theorem dSP_take_2 : decode cSP_take 2 = .ok (.iconst 4, 1) := by decide +kernel
theorem dSP_take_3 : decode cSP_take 3 = .ok (.invokestatic 41, 3) := by decide +kernel
theorem dSP_take_6 : decode cSP_take 6 = .ok (.putfield 27, 3) := by decide +kernel
theorem dSP_take_9 : decode cSP_take 9 = .ok (.aload_n 0, 1) := by decide +kernel
theorem dSP_take_10 : decode cSP_take 10 = .ok (.iconst 0, 1) := by decide +kernel
theorem dSP_take_11 : decode cSP_take 11 = .ok (.putfield 44, 3) := by decide +kernel
theorem dSP_take_14 : decode cSP_take 14 = .ok (.aload_n 0, 1) := by decide +kernel
theorem dSP_take_15 : decode cSP_take 15 = .ok (.getfield 9, 3) := by decide +kernel
theorem dSP_take_18 : decode cSP_take 18 = .ok (.iconst 0, 1) := by decide +kernel
theorem dSP_take_19 : decode cSP_take 19 = .ok (.invokestatic 21, 3) := by decide +kernel
theorem dSP_take_22 : decode cSP_take 22 = .ok (.aload_n 0, 1) := by decide +kernel
theorem dSP_take_23 : decode cSP_take 23 = .ok (.getfield 15, 3) := by decide +kernel
theorem dSP_take_26 : decode cSP_take 26 = .ok (.iconst 0, 1) := by decide +kernel
theorem dSP_take_27 : decode cSP_take 27 = .ok (.invokestatic 21, 3) := by decide +kernel
theorem dSP_take_30 : decode cSP_take 30 = .ok (.iconst 0, 1) := by decide +kernel
theorem dSP_take_31 : decode cSP_take 31 = .ok (.istore_n 3, 1) := by decide +kernel
theorem dSP_take_32 : decode cSP_take 32 = .ok (.iload_n 3, 1) := by decide +kernel
theorem dSP_take_33 : decode cSP_take 33 = .ok (.aload_n 1, 1) := by decide +kernel
theorem dSP_take_34 : decode cSP_take 34 = .ok (.getfield 47, 3) := by decide +kernel
theorem dSP_take_37 : decode cSP_take 37 = .ok (.if_icmp .ge 25, 3) := by decide +kernel
theorem dSP_take_40 : decode cSP_take 40 = .ok (.aload_n 0, 1) := by decide +kernel
theorem dSP_take_41 : decode cSP_take 41 = .ok (.aload_n 1, 1) := by decide +kernel
theorem dSP_take_42 : decode cSP_take 42 = .ok (.getfield 52, 3) := by decide +kernel
theorem dSP_take_45 : decode cSP_take 45 = .ok (.iload_n 3, 1) := by decide +kernel
theorem dSP_take_46 : decode cSP_take 46 = .ok (.iaload, 1) := by decide +kernel
theorem dSP_take_47 : decode cSP_take 47 = .ok (.aload_n 1, 1) := by decide +kernel
theorem dSP_take_48 : decode cSP_take 48 = .ok (.getfield 55, 3) := by decide +kernel
theorem dSP_take_51 : decode cSP_take 51 = .ok (.iload_n 3, 1) := by decide +kernel
theorem dSP_take_52 : decode cSP_take 52 = .ok (.iaload, 1) := by decide +kernel
theorem dSP_take_53 : decode cSP_take 53 = .ok (.invokevirtual 58, 3) := by decide +kernel
theorem dSP_take_56 : decode cSP_take 56 = .ok (.iinc 3 1, 3) := by decide +kernel
theorem dSP_take_59 : decode cSP_take 59 = .ok (.goto (-27), 3) := by decide +kernel
theorem dSP_take_62 : decode cSP_take 62 = .ok (.iconst 0, 1) := by decide +kernel
theorem dSP_take_63 : decode cSP_take 63 = .ok (.istore_n 3, 1) := by decide +kernel
theorem dSP_take_64 : decode cSP_take 64 = .ok (.iload_n 3, 1) := by decide +kernel
theorem dSP_take_65 : decode cSP_take 65 = .ok (.aload_n 1, 1) := by decide +kernel
theorem dSP_take_66 : decode cSP_take 66 = .ok (.getfield 62, 3) := by decide +kernel
theorem dSP_take_69 : decode cSP_take 69 = .ok (.if_icmp .ge 19, 3) := by decide +kernel
theorem dSP_take_72 : decode cSP_take 72 = .ok (.aload_n 0, 1) := by decide +kernel
theorem dSP_take_73 : decode cSP_take 73 = .ok (.iload_n 3, 1) := by decide +kernel
theorem dSP_take_74 : decode cSP_take 74 = .ok (.aload_n 1, 1) := by decide +kernel
theorem dSP_take_75 : decode cSP_take 75 = .ok (.iload_n 3, 1) := by decide +kernel
theorem dSP_take_76 : decode cSP_take 76 = .ok (.invokevirtual 65, 3) := by decide +kernel
theorem dSP_take_79 : decode cSP_take 79 = .ok (.invokevirtual 69, 3) := by decide +kernel
theorem dSP_take_82 : decode cSP_take 82 = .ok (.iinc 3 1, 3) := by decide +kernel
theorem dSP_take_85 : decode cSP_take 85 = .ok (.goto (-21), 3) := by decide +kernel
theorem dSP_take_88 : decode cSP_take 88 = .ok (.return_, 1) := by decide +kernel
theorem dSP_addTime_0 : decode cSP_addTime 0 = .ok (.aload_n 0, 1) := by decide +kernel
theorem dSP_addTime_1 : decode cSP_addTime 1 = .ok (.iload_n 1, 1) := by decide +kernel
theorem dSP_addTime_2 : decode cSP_addTime 2 = .ok (.invokevirtual 72, 3) := by decide +kernel
theorem dSP_addTime_5 : decode cSP_addTime 5 = .ok (.ifCond .eq 13, 3) := by decide +kernel
theorem dSP_addTime_8 : decode cSP_addTime 8 = .ok (.aload_n 0, 1) := by decide +kernel
theorem dSP_addTime_9 : decode cSP_addTime 9 = .ok (.getfield 9, 3) := by decide +kernel
theorem dSP_addTime_12 : decode cSP_addTime 12 = .ok (.iload_n 1, 1) := by decide +kernel
theorem dSP_addTime_13 : decode cSP_addTime 13 = .ok (.dup2, 1) := by decide +kernel
theorem dSP_addTime_14 : decode cSP_addTime 14 = .ok (.iaload, 1) := by decide +kernel
theorem dSP_addTime_15 : decode cSP_addTime 15 = .ok (.iload_n 2, 1) := by decide +kernel
theorem dSP_addTime_16 : decode cSP_addTime 16 = .ok (.iadd, 1) := by decide +kernel
theorem dSP_addTime_17 : decode cSP_addTime 17 = .ok (.iastore, 1) := by decide +kernel
theorem dSP_addTime_18 : decode cSP_addTime 18 = .ok (.return_, 1) := by decide +kernel
theorem dSP_hasShard_0 : decode cSP_hasShard 0 = .ok (.iload_n 1, 1) := by decide +kernel
theorem dSP_hasShard_1 : decode cSP_hasShard 1 = .ok (.ifCond .lt 15, 3) := by decide +kernel
theorem dSP_hasShard_4 : decode cSP_hasShard 4 = .ok (.iload_n 1, 1) := by decide +kernel
theorem dSP_hasShard_5 : decode cSP_hasShard 5 = .ok (.aload_n 0, 1) := by decide +kernel
theorem dSP_hasShard_6 : decode cSP_hasShard 6 = .ok (.getfield 27, 3) := by decide +kernel
theorem dSP_hasShard_9 : decode cSP_hasShard 9 = .ok (.if_icmp .ge 7, 3) := by decide +kernel
theorem dSP_hasShard_12 : decode cSP_hasShard 12 = .ok (.iconst 1, 1) := by decide +kernel
theorem dSP_hasShard_13 : decode cSP_hasShard 13 = .ok (.goto 4, 3) := by decide +kernel
theorem dSP_hasShard_16 : decode cSP_hasShard 16 = .ok (.iconst 0, 1) := by decide +kernel
theorem dSP_hasShard_17 : decode cSP_hasShard 17 = .ok (.ireturn, 1) := by decide +kernel
theorem dGR_shardFor_0 : decode cGR_shardFor 0 = .ok (.aload_n 0, 1) := by decide +kernel
theorem dGR_shardFor_1 : decode cGR_shardFor 1 = .ok (.iload_n 1, 1) := by decide +kernel
theorem dGR_shardFor_2 : decode cGR_shardFor 2 = .ok (.invokevirtual 43, 3) := by decide +kernel
theorem dGR_shardFor_5 : decode cGR_shardFor 5 = .ok (.istore_n 2, 1) := by decide +kernel
theorem dGR_shardFor_6 : decode cGR_shardFor 6 = .ok (.iload_n 2, 1) := by decide +kernel
theorem dGR_shardFor_7 : decode cGR_shardFor 7 = .ok (.ifCond .lt 20, 3) := by decide +kernel
theorem dGR_shardFor_10 : decode cGR_shardFor 10 = .ok (.iload_n 2, 1) := by decide +kernel
theorem dGR_shardFor_11 : decode cGR_shardFor 11 = .ok (.aload_n 0, 1) := by decide +kernel
theorem dGR_shardFor_12 : decode cGR_shardFor 12 = .ok (.getfield 30, 3) := by decide +kernel
theorem dGR_shardFor_15 : decode cGR_shardFor 15 = .ok (.if_icmp .ge 12, 3) := by decide +kernel
theorem dGR_shardFor_18 : decode cGR_shardFor 18 = .ok (.aload_n 0, 1) := by decide +kernel
theorem dGR_shardFor_19 : decode cGR_shardFor 19 = .ok (.getfield 18, 3) := by decide +kernel
theorem dGR_shardFor_22 : decode cGR_shardFor 22 = .ok (.iload_n 2, 1) := by decide +kernel
theorem dGR_shardFor_23 : decode cGR_shardFor 23 = .ok (.iaload, 1) := by decide +kernel
theorem dGR_shardFor_24 : decode cGR_shardFor 24 = .ok (.goto 4, 3) := by decide +kernel
theorem dGR_shardFor_27 : decode cGR_shardFor 27 = .ok (.iconst (-1), 1) := by decide +kernel
theorem dGR_shardFor_28 : decode cGR_shardFor 28 = .ok (.ireturn, 1) := by decide +kernel
theorem dSP_give_0 : decode cSP_give 0 = .ok (.iload_n 1, 1) := by decide +kernel
theorem dSP_give_1 : decode cSP_give 1 = .ok (.invokestatic 31, 3) := by decide +kernel
theorem dSP_give_4 : decode cSP_give 4 = .ok (.ifCond .eq 11, 3) := by decide +kernel
theorem dSP_give_7 : decode cSP_give 7 = .ok (.aload_n 0, 1) := by decide +kernel
theorem dSP_give_8 : decode cSP_give 8 = .ok (.iload_n 2, 1) := by decide +kernel
theorem dSP_give_9 : decode cSP_give 9 = .ok (.invokevirtual 72, 3) := by decide +kernel
theorem dSP_give_12 : decode cSP_give 12 = .ok (.ifCond .ne 4, 3) := by decide +kernel
theorem dSP_give_15 : decode cSP_give 15 = .ok (.return_, 1) := by decide +kernel
theorem dSP_give_16 : decode cSP_give 16 = .ok (.aload_n 0, 1) := by decide +kernel
theorem dSP_give_17 : decode cSP_give 17 = .ok (.getfield 18, 3) := by decide +kernel
theorem dSP_give_20 : decode cSP_give 20 = .ok (.iload_n 1, 1) := by decide +kernel
theorem dSP_give_21 : decode cSP_give 21 = .ok (.iaload, 1) := by decide +kernel
theorem dSP_give_22 : decode cSP_give 22 = .ok (.iconst (-1), 1) := by decide +kernel
theorem dSP_give_23 : decode cSP_give 23 = .ok (.if_icmp .eq 23, 3) := by decide +kernel
theorem dSP_give_26 : decode cSP_give 26 = .ok (.aload_n 0, 1) := by decide +kernel
theorem dSP_give_27 : decode cSP_give 27 = .ok (.getfield 18, 3) := by decide +kernel
theorem dSP_give_30 : decode cSP_give 30 = .ok (.iload_n 1, 1) := by decide +kernel
theorem dSP_give_31 : decode cSP_give 31 = .ok (.iaload, 1) := by decide +kernel
theorem dSP_give_32 : decode cSP_give 32 = .ok (.iload_n 2, 1) := by decide +kernel
theorem dSP_give_33 : decode cSP_give 33 = .ok (.if_icmp .eq 13, 3) := by decide +kernel
theorem dSP_give_36 : decode cSP_give 36 = .ok (.aload_n 0, 1) := by decide +kernel
theorem dSP_give_37 : decode cSP_give 37 = .ok (.dup, 1) := by decide +kernel
theorem dSP_give_38 : decode cSP_give 38 = .ok (.getfield 44, 3) := by decide +kernel
theorem dSP_give_41 : decode cSP_give 41 = .ok (.iconst 1, 1) := by decide +kernel
theorem dSP_give_42 : decode cSP_give 42 = .ok (.iadd, 1) := by decide +kernel
theorem dSP_give_43 : decode cSP_give 43 = .ok (.putfield 44, 3) := by decide +kernel
theorem dSP_give_46 : decode cSP_give 46 = .ok (.aload_n 0, 1) := by decide +kernel
theorem dSP_give_47 : decode cSP_give 47 = .ok (.getfield 18, 3) := by decide +kernel
theorem dSP_give_50 : decode cSP_give 50 = .ok (.iload_n 1, 1) := by decide +kernel
theorem dSP_give_51 : decode cSP_give 51 = .ok (.iload_n 2, 1) := by decide +kernel
theorem dSP_give_52 : decode cSP_give 52 = .ok (.iastore, 1) := by decide +kernel
theorem dSP_give_53 : decode cSP_give 53 = .ok (.aload_n 0, 1) := by decide +kernel
theorem dSP_give_54 : decode cSP_give 54 = .ok (.getfield 15, 3) := by decide +kernel
theorem dSP_give_57 : decode cSP_give 57 = .ok (.iload_n 2, 1) := by decide +kernel
theorem dSP_give_58 : decode cSP_give 58 = .ok (.dup2, 1) := by decide +kernel
theorem dSP_give_59 : decode cSP_give 59 = .ok (.iaload, 1) := by decide +kernel
theorem dSP_give_60 : decode cSP_give 60 = .ok (.iconst 1, 1) := by decide +kernel
theorem dSP_give_61 : decode cSP_give 61 = .ok (.iadd, 1) := by decide +kernel
theorem dSP_give_62 : decode cSP_give 62 = .ok (.iastore, 1) := by decide +kernel
theorem dSP_give_63 : decode cSP_give 63 = .ok (.return_, 1) := by decide +kernel
theorem dRR_forget_0 : decode cRR_forget 0 = .ok (.aload_n 0, 1) := by decide +kernel
theorem dRR_forget_1 : decode cRR_forget 1 = .ok (.iconst 0, 1) := by decide +kernel
theorem dRR_forget_2 : decode cRR_forget 2 = .ok (.putfield 22, 3) := by decide +kernel
theorem dRR_forget_5 : decode cRR_forget 5 = .ok (.aload_n 0, 1) := by decide +kernel
theorem dRR_forget_6 : decode cRR_forget 6 = .ok (.getfield 19, 3) := by decide +kernel
theorem dRR_forget_9 : decode cRR_forget 9 = .ok (.iconst 0, 1) := by decide +kernel
theorem dRR_forget_10 : decode cRR_forget 10 = .ok (.invokestatic 26, 3) := by decide +kernel
theorem dRR_forget_13 : decode cRR_forget 13 = .ok (.iconst 0, 1) := by decide +kernel
theorem dRR_forget_14 : decode cRR_forget 14 = .ok (.istore_n 1, 1) := by decide +kernel
theorem dRR_forget_15 : decode cRR_forget 15 = .ok (.iload_n 1, 1) := by decide +kernel
theorem dRR_forget_16 : decode cRR_forget 16 = .ok (.bipush 24, 2) := by decide +kernel
theorem dRR_forget_18 : decode cRR_forget 18 = .ok (.if_icmp .ge 16, 3) := by decide +kernel
theorem dRR_forget_21 : decode cRR_forget 21 = .ok (.aload_n 0, 1) := by decide +kernel
theorem dRR_forget_22 : decode cRR_forget 22 = .ok (.getfield 9, 3) := by decide +kernel
theorem dRR_forget_25 : decode cRR_forget 25 = .ok (.iload_n 1, 1) := by decide +kernel
theorem dRR_forget_26 : decode cRR_forget 26 = .ok (.iconst 0, 1) := by decide +kernel
theorem dRR_forget_27 : decode cRR_forget 27 = .ok (.bastore, 1) := by decide +kernel
theorem dRR_forget_28 : decode cRR_forget 28 = .ok (.iinc 1 1, 3) := by decide +kernel
theorem dRR_forget_31 : decode cRR_forget 31 = .ok (.goto (-16), 3) := by decide +kernel
theorem dRR_forget_34 : decode cRR_forget 34 = .ok (.return_, 1) := by decide +kernel
theorem dSP_longest_0 : decode cSP_longest 0 = .ok (.iconst 0, 1) := by decide +kernel
theorem dSP_longest_1 : decode cSP_longest 1 = .ok (.istore_n 1, 1) := by decide +kernel
theorem dSP_longest_2 : decode cSP_longest 2 = .ok (.iconst 0, 1) := by decide +kernel
theorem dSP_longest_3 : decode cSP_longest 3 = .ok (.istore_n 2, 1) := by decide +kernel
theorem dSP_longest_4 : decode cSP_longest 4 = .ok (.iload_n 2, 1) := by decide +kernel
theorem dSP_longest_5 : decode cSP_longest 5 = .ok (.aload_n 0, 1) := by decide +kernel
theorem dSP_longest_6 : decode cSP_longest 6 = .ok (.getfield 27, 3) := by decide +kernel
theorem dSP_longest_9 : decode cSP_longest 9 = .ok (.if_icmp .ge 20, 3) := by decide +kernel
theorem dSP_longest_12 : decode cSP_longest 12 = .ok (.iload_n 1, 1) := by decide +kernel
theorem dSP_longest_13 : decode cSP_longest 13 = .ok (.aload_n 0, 1) := by decide +kernel
theorem dSP_longest_14 : decode cSP_longest 14 = .ok (.getfield 9, 3) := by decide +kernel
theorem dSP_longest_17 : decode cSP_longest 17 = .ok (.iload_n 2, 1) := by decide +kernel
theorem dSP_longest_18 : decode cSP_longest 18 = .ok (.iaload, 1) := by decide +kernel
theorem dSP_longest_19 : decode cSP_longest 19 = .ok (.invokestatic 35, 3) := by decide +kernel
theorem dSP_longest_22 : decode cSP_longest 22 = .ok (.istore_n 1, 1) := by decide +kernel
theorem dSP_longest_23 : decode cSP_longest 23 = .ok (.iinc 2 1, 3) := by decide +kernel
theorem dSP_longest_26 : decode cSP_longest 26 = .ok (.goto (-22), 3) := by decide +kernel
theorem dSP_longest_29 : decode cSP_longest 29 = .ok (.iload_n 1, 1) := by decide +kernel
theorem dSP_longest_30 : decode cSP_longest 30 = .ok (.ireturn, 1) := by decide +kernel
theorem dSR_shard_0 : decode cSR_shard 0 = .ok (.aload_n 0, 1) := by decide +kernel
theorem dSR_shard_1 : decode cSR_shard 1 = .ok (.getfield 53, 3) := by decide +kernel
theorem dSR_shard_4 : decode cSR_shard 4 = .ok (.iload_n 1, 1) := by decide +kernel
theorem dSR_shard_5 : decode cSR_shard 5 = .ok (.invokevirtual 111, 3) := by decide +kernel
theorem dSR_shard_8 : decode cSR_shard 8 = .ok (.ireturn, 1) := by decide +kernel
theorem dSR_sum_0 : decode cSR_sum 0 = .ok (.aload_n 0, 1) := by decide +kernel
theorem dSR_sum_1 : decode cSR_sum 1 = .ok (.getfield 53, 3) := by decide +kernel
theorem dSR_sum_4 : decode cSR_sum 4 = .ok (.iload_n 1, 1) := by decide +kernel
theorem dSR_sum_5 : decode cSR_sum 5 = .ok (.invokevirtual 114, 3) := by decide +kernel
theorem dSR_sum_8 : decode cSR_sum 8 = .ok (.ifCond .eq 15, 3) := by decide +kernel
theorem dSR_sum_11 : decode cSR_sum 11 = .ok (.aload_n 0, 1) := by decide +kernel
theorem dSR_sum_12 : decode cSR_sum 12 = .ok (.getfield 53, 3) := by decide +kernel
theorem dSR_sum_15 : decode cSR_sum 15 = .ok (.getfield 118, 3) := by decide +kernel
theorem dSR_sum_18 : decode cSR_sum 18 = .ok (.iload_n 1, 1) := by decide +kernel
theorem dSR_sum_19 : decode cSR_sum 19 = .ok (.iaload, 1) := by decide +kernel
theorem dSR_sum_20 : decode cSR_sum 20 = .ok (.goto 4, 3) := by decide +kernel
theorem dSR_sum_23 : decode cSR_sum 23 = .ok (.iconst (-1), 1) := by decide +kernel
theorem dSR_sum_24 : decode cSR_sum 24 = .ok (.ireturn, 1) := by decide +kernel
theorem dSR_moved_0 : decode cSR_moved 0 = .ok (.aload_n 0, 1) := by decide +kernel
theorem dSR_moved_1 : decode cSR_moved 1 = .ok (.getfield 53, 3) := by decide +kernel
theorem dSR_moved_4 : decode cSR_moved 4 = .ok (.getfield 122, 3) := by decide +kernel
theorem dSR_moved_7 : decode cSR_moved 7 = .ok (.ireturn, 1) := by decide +kernel
theorem dSR_empty_0 : decode cSR_empty 0 = .ok (.iconst 0, 1) := by decide +kernel
theorem dSR_empty_1 : decode cSR_empty 1 = .ok (.istore_n 2, 1) := by decide +kernel
theorem dSR_empty_2 : decode cSR_empty 2 = .ok (.iconst 0, 1) := by decide +kernel
theorem dSR_empty_3 : decode cSR_empty 3 = .ok (.istore_n 3, 1) := by decide +kernel
theorem dSR_empty_4 : decode cSR_empty 4 = .ok (.iload_n 3, 1) := by decide +kernel
theorem dSR_empty_5 : decode cSR_empty 5 = .ok (.aload_n 0, 1) := by decide +kernel
theorem dSR_empty_6 : decode cSR_empty 6 = .ok (.getfield 53, 3) := by decide +kernel
theorem dSR_empty_9 : decode cSR_empty 9 = .ok (.getfield 125, 3) := by decide +kernel
theorem dSR_empty_12 : decode cSR_empty 12 = .ok (.if_icmp .ge 31, 3) := by decide +kernel
theorem dSR_empty_15 : decode cSR_empty 15 = .ok (.aload_n 0, 1) := by decide +kernel
theorem dSR_empty_16 : decode cSR_empty 16 = .ok (.getfield 53, 3) := by decide +kernel
theorem dSR_empty_19 : decode cSR_empty 19 = .ok (.getfield 128, 3) := by decide +kernel
theorem dSR_empty_22 : decode cSR_empty 22 = .ok (.iload_n 3, 1) := by decide +kernel
theorem dSR_empty_23 : decode cSR_empty 23 = .ok (.iaload, 1) := by decide +kernel
theorem dSR_empty_24 : decode cSR_empty 24 = .ok (.ifCond .ne 13, 3) := by decide +kernel
theorem dSR_empty_27 : decode cSR_empty 27 = .ok (.iload_n 2, 1) := by decide +kernel
theorem dSR_empty_28 : decode cSR_empty 28 = .ok (.iload_n 1, 1) := by decide +kernel
theorem dSR_empty_29 : decode cSR_empty 29 = .ok (.if_icmp .ne 5, 3) := by decide +kernel
theorem dSR_empty_32 : decode cSR_empty 32 = .ok (.iload_n 3, 1) := by decide +kernel
theorem dSR_empty_33 : decode cSR_empty 33 = .ok (.ireturn, 1) := by decide +kernel
theorem dSR_empty_34 : decode cSR_empty 34 = .ok (.iinc 2 1, 3) := by decide +kernel
theorem dSR_empty_37 : decode cSR_empty 37 = .ok (.iinc 3 1, 3) := by decide +kernel
theorem dSR_empty_40 : decode cSR_empty 40 = .ok (.goto (-36), 3) := by decide +kernel
theorem dSR_empty_43 : decode cSR_empty 43 = .ok (.iconst (-1), 1) := by decide +kernel
theorem dSR_empty_44 : decode cSR_empty 44 = .ok (.ireturn, 1) := by decide +kernel
theorem dSR_draw_0 : decode cSR_draw 0 = .ok (.aload_n 0, 1) := by decide +kernel
theorem dSR_draw_1 : decode cSR_draw 1 = .ok (.getfield 53, 3) := by decide +kernel
theorem dSR_draw_4 : decode cSR_draw 4 = .ok (.iload_n 1, 1) := by decide +kernel
theorem dSR_draw_5 : decode cSR_draw 5 = .ok (.invokevirtual 114, 3) := by decide +kernel
theorem dSR_draw_8 : decode cSR_draw 8 = .ok (.ifCond .ne 5, 3) := by decide +kernel
theorem dSR_draw_11 : decode cSR_draw 11 = .ok (.iconst (-1), 1) := by decide +kernel
theorem dSR_draw_12 : decode cSR_draw 12 = .ok (.ireturn, 1) := by decide +kernel
theorem dSR_draw_13 : decode cSR_draw 13 = .ok (.aload_n 0, 1) := by decide +kernel
theorem dSR_draw_14 : decode cSR_draw 14 = .ok (.getfield 67, 3) := by decide +kernel
theorem dSR_draw_17 : decode cSR_draw 17 = .ok (.aload_n 0, 1) := by decide +kernel
theorem dSR_draw_18 : decode cSR_draw 18 = .ok (.getfield 53, 3) := by decide +kernel
theorem dSR_draw_21 : decode cSR_draw 21 = .ok (.iload_n 1, 1) := by decide +kernel
theorem dSR_draw_22 : decode cSR_draw 22 = .ok (.invokevirtual 131, 3) := by decide +kernel
theorem dSR_draw_25 : decode cSR_draw 25 = .ok (.aload_n 0, 1) := by decide +kernel
theorem dSR_draw_26 : decode cSR_draw 26 = .ok (.getfield 67, 3) := by decide +kernel
theorem dSR_draw_29 : decode cSR_draw 29 = .ok (.lload_n 2, 1) := by decide +kernel
theorem dSR_draw_30 : decode cSR_draw 30 = .ok (.invokevirtual 134, 3) := by decide +kernel
theorem dSR_draw_33 : decode cSR_draw 33 = .ok (.aload_n 0, 1) := by decide +kernel
theorem dSR_draw_34 : decode cSR_draw 34 = .ok (.getfield 67, 3) := by decide +kernel
theorem dSR_draw_37 : decode cSR_draw 37 = .ok (.getfield 138, 3) := by decide +kernel
theorem dSR_draw_40 : decode cSR_draw 40 = .ok (.ireturn, 1) := by decide +kernel
theorem dDR_gather_0 : decode cDR_gather 0 = .ok (.aload_n 0, 1) := by decide +kernel
theorem dDR_gather_1 : decode cDR_gather 1 = .ok (.iconst 0, 1) := by decide +kernel
theorem dDR_gather_2 : decode cDR_gather 2 = .ok (.putfield 15, 3) := by decide +kernel
theorem dDR_gather_5 : decode cDR_gather 5 = .ok (.iconst 0, 1) := by decide +kernel
theorem dDR_gather_6 : decode cDR_gather 6 = .ok (.istore_n 3, 1) := by decide +kernel
theorem dDR_gather_7 : decode cDR_gather 7 = .ok (.iload_n 3, 1) := by decide +kernel
theorem dDR_gather_8 : decode cDR_gather 8 = .ok (.bipush 24, 2) := by decide +kernel
theorem dDR_gather_10 : decode cDR_gather 10 = .ok (.if_icmp .ge 38, 3) := by decide +kernel
theorem dDR_gather_13 : decode cDR_gather 13 = .ok (.aload_n 1, 1) := by decide +kernel
theorem dDR_gather_14 : decode cDR_gather 14 = .ok (.iload_n 3, 1) := by decide +kernel
theorem dDR_gather_15 : decode cDR_gather 15 = .ok (.invokevirtual 19, 3) := by decide +kernel
theorem dDR_gather_18 : decode cDR_gather 18 = .ok (.iload_n 2, 1) := by decide +kernel
theorem dDR_gather_19 : decode cDR_gather 19 = .ok (.if_icmp .ne 23, 3) := by decide +kernel
theorem dDR_gather_22 : decode cDR_gather 22 = .ok (.aload_n 0, 1) := by decide +kernel
theorem dDR_gather_23 : decode cDR_gather 23 = .ok (.getfield 9, 3) := by decide +kernel
theorem dDR_gather_26 : decode cDR_gather 26 = .ok (.aload_n 0, 1) := by decide +kernel
theorem dDR_gather_27 : decode cDR_gather 27 = .ok (.getfield 15, 3) := by decide +kernel
theorem dDR_gather_30 : decode cDR_gather 30 = .ok (.iload_n 3, 1) := by decide +kernel
theorem dDR_gather_31 : decode cDR_gather 31 = .ok (.iastore, 1) := by decide +kernel
theorem dDR_gather_32 : decode cDR_gather 32 = .ok (.aload_n 0, 1) := by decide +kernel
theorem dDR_gather_33 : decode cDR_gather 33 = .ok (.dup, 1) := by decide +kernel
theorem dDR_gather_34 : decode cDR_gather 34 = .ok (.getfield 15, 3) := by decide +kernel
theorem dDR_gather_37 : decode cDR_gather 37 = .ok (.iconst 1, 1) := by decide +kernel
theorem dDR_gather_38 : decode cDR_gather 38 = .ok (.iadd, 1) := by decide +kernel
theorem dDR_gather_39 : decode cDR_gather 39 = .ok (.putfield 15, 3) := by decide +kernel
theorem dDR_gather_42 : decode cDR_gather 42 = .ok (.iinc 3 1, 3) := by decide +kernel
theorem dDR_gather_45 : decode cDR_gather 45 = .ok (.goto (-38), 3) := by decide +kernel
theorem dDR_gather_48 : decode cDR_gather 48 = .ok (.return_, 1) := by decide +kernel
theorem dDR_shuffle_0 : decode cDR_shuffle 0 = .ok (.lload_n 1, 1) := by decide +kernel
theorem dDR_shuffle_1 : decode cDR_shuffle 1 = .ok (.lstore_n 3, 1) := by decide +kernel
theorem dDR_shuffle_2 : decode cDR_shuffle 2 = .ok (.aload_n 0, 1) := by decide +kernel
theorem dDR_shuffle_3 : decode cDR_shuffle 3 = .ok (.getfield 15, 3) := by decide +kernel
theorem dDR_shuffle_6 : decode cDR_shuffle 6 = .ok (.iconst 1, 1) := by decide +kernel
theorem dDR_shuffle_7 : decode cDR_shuffle 7 = .ok (.isub, 1) := by decide +kernel
theorem dDR_shuffle_8 : decode cDR_shuffle 8 = .ok (.istore 5, 2) := by decide +kernel
theorem dDR_shuffle_10 : decode cDR_shuffle 10 = .ok (.iload 5, 2) := by decide +kernel
theorem dDR_shuffle_12 : decode cDR_shuffle 12 = .ok (.iconst 1, 1) := by decide +kernel
theorem dDR_shuffle_13 : decode cDR_shuffle 13 = .ok (.if_icmp .lt 64, 3) := by decide +kernel
theorem dDR_shuffle_16 : decode cDR_shuffle 16 = .ok (.lload_n 3, 1) := by decide +kernel
theorem dDR_shuffle_17 : decode cDR_shuffle 17 = .ok (.ldc2_w 25, 3) := by decide +kernel
theorem dDR_shuffle_20 : decode cDR_shuffle 20 = .ok (.lmul, 1) := by decide +kernel
theorem dDR_shuffle_21 : decode cDR_shuffle 21 = .ok (.ldc2_w 27, 3) := by decide +kernel
theorem dDR_shuffle_24 : decode cDR_shuffle 24 = .ok (.ladd, 1) := by decide +kernel
theorem dDR_shuffle_25 : decode cDR_shuffle 25 = .ok (.lstore_n 3, 1) := by decide +kernel
theorem dDR_shuffle_26 : decode cDR_shuffle 26 = .ok (.lload_n 3, 1) := by decide +kernel
theorem dDR_shuffle_27 : decode cDR_shuffle 27 = .ok (.bipush 33, 2) := by decide +kernel
theorem dDR_shuffle_29 : decode cDR_shuffle 29 = .ok (.lushr, 1) := by decide +kernel
theorem dDR_shuffle_30 : decode cDR_shuffle 30 = .ok (.iload 5, 2) := by decide +kernel
theorem dDR_shuffle_32 : decode cDR_shuffle 32 = .ok (.iconst 1, 1) := by decide +kernel
theorem dDR_shuffle_33 : decode cDR_shuffle 33 = .ok (.iadd, 1) := by decide +kernel
theorem dDR_shuffle_34 : decode cDR_shuffle 34 = .ok (.i2l, 1) := by decide +kernel
theorem dDR_shuffle_35 : decode cDR_shuffle 35 = .ok (.lrem, 1) := by decide +kernel
theorem dDR_shuffle_36 : decode cDR_shuffle 36 = .ok (.l2i, 1) := by decide +kernel
theorem dDR_shuffle_37 : decode cDR_shuffle 37 = .ok (.istore 6, 2) := by decide +kernel
theorem dDR_shuffle_39 : decode cDR_shuffle 39 = .ok (.aload_n 0, 1) := by decide +kernel
theorem dDR_shuffle_40 : decode cDR_shuffle 40 = .ok (.getfield 9, 3) := by decide +kernel
theorem dDR_shuffle_43 : decode cDR_shuffle 43 = .ok (.iload 5, 2) := by decide +kernel
theorem dDR_shuffle_45 : decode cDR_shuffle 45 = .ok (.iaload, 1) := by decide +kernel
theorem dDR_shuffle_46 : decode cDR_shuffle 46 = .ok (.istore 7, 2) := by decide +kernel
theorem dDR_shuffle_48 : decode cDR_shuffle 48 = .ok (.aload_n 0, 1) := by decide +kernel
theorem dDR_shuffle_49 : decode cDR_shuffle 49 = .ok (.getfield 9, 3) := by decide +kernel
theorem dDR_shuffle_52 : decode cDR_shuffle 52 = .ok (.iload 5, 2) := by decide +kernel
theorem dDR_shuffle_54 : decode cDR_shuffle 54 = .ok (.aload_n 0, 1) := by decide +kernel
theorem dDR_shuffle_55 : decode cDR_shuffle 55 = .ok (.getfield 9, 3) := by decide +kernel
theorem dDR_shuffle_58 : decode cDR_shuffle 58 = .ok (.iload 6, 2) := by decide +kernel
theorem dDR_shuffle_60 : decode cDR_shuffle 60 = .ok (.iaload, 1) := by decide +kernel
theorem dDR_shuffle_61 : decode cDR_shuffle 61 = .ok (.iastore, 1) := by decide +kernel
theorem dDR_shuffle_62 : decode cDR_shuffle 62 = .ok (.aload_n 0, 1) := by decide +kernel
theorem dDR_shuffle_63 : decode cDR_shuffle 63 = .ok (.getfield 9, 3) := by decide +kernel
theorem dDR_shuffle_66 : decode cDR_shuffle 66 = .ok (.iload 6, 2) := by decide +kernel
theorem dDR_shuffle_68 : decode cDR_shuffle 68 = .ok (.iload 7, 2) := by decide +kernel
theorem dDR_shuffle_70 : decode cDR_shuffle 70 = .ok (.iastore, 1) := by decide +kernel
theorem dDR_shuffle_71 : decode cDR_shuffle 71 = .ok (.iinc 5 (-1), 3) := by decide +kernel
theorem dDR_shuffle_74 : decode cDR_shuffle 74 = .ok (.goto (-64), 3) := by decide +kernel
theorem dDR_shuffle_77 : decode cDR_shuffle 77 = .ok (.return_, 1) := by decide +kernel
theorem dSR_drawn_0 : decode cSR_drawn 0 = .ok (.aload_n 0, 1) := by decide +kernel
theorem dSR_drawn_1 : decode cSR_drawn 1 = .ok (.getfield 67, 3) := by decide +kernel
theorem dSR_drawn_4 : decode cSR_drawn 4 = .ok (.iload_n 1, 1) := by decide +kernel
theorem dSR_drawn_5 : decode cSR_drawn 5 = .ok (.invokevirtual 139, 3) := by decide +kernel
theorem dSR_drawn_8 : decode cSR_drawn 8 = .ok (.ireturn, 1) := by decide +kernel
theorem dDR_at_0 : decode cDR_at 0 = .ok (.iload_n 1, 1) := by decide +kernel
theorem dDR_at_1 : decode cDR_at 1 = .ok (.ifCond .lt 20, 3) := by decide +kernel
theorem dDR_at_4 : decode cDR_at 4 = .ok (.iload_n 1, 1) := by decide +kernel
theorem dDR_at_5 : decode cDR_at 5 = .ok (.aload_n 0, 1) := by decide +kernel
theorem dDR_at_6 : decode cDR_at 6 = .ok (.getfield 15, 3) := by decide +kernel
theorem dDR_at_9 : decode cDR_at 9 = .ok (.if_icmp .ge 12, 3) := by decide +kernel
theorem dDR_at_12 : decode cDR_at 12 = .ok (.aload_n 0, 1) := by decide +kernel
theorem dDR_at_13 : decode cDR_at 13 = .ok (.getfield 9, 3) := by decide +kernel
theorem dDR_at_16 : decode cDR_at 16 = .ok (.iload_n 1, 1) := by decide +kernel
theorem dDR_at_17 : decode cDR_at 17 = .ok (.iaload, 1) := by decide +kernel
theorem dDR_at_18 : decode cDR_at 18 = .ok (.goto 4, 3) := by decide +kernel
theorem dDR_at_21 : decode cDR_at 21 = .ok (.iconst (-1), 1) := by decide +kernel
theorem dDR_at_22 : decode cDR_at 22 = .ok (.ireturn, 1) := by decide +kernel
theorem dSR_result_0 : decode cSR_result 0 = .ok (.aload_n 0, 1) := by decide +kernel
theorem dSR_result_1 : decode cSR_result 1 = .ok (.getfield 53, 3) := by decide +kernel
theorem dSR_result_4 : decode cSR_result 4 = .ok (.iload_n 1, 1) := by decide +kernel
theorem dSR_result_5 : decode cSR_result 5 = .ok (.invokevirtual 111, 3) := by decide +kernel
theorem dSR_result_8 : decode cSR_result 8 = .ok (.istore 4, 2) := by decide +kernel
theorem dSR_result_10 : decode cSR_result 10 = .ok (.iload 4, 2) := by decide +kernel
theorem dSR_result_12 : decode cSR_result 12 = .ok (.iconst (-1), 1) := by decide +kernel
theorem dSR_result_13 : decode cSR_result 13 = .ok (.if_icmp .eq 14, 3) := by decide +kernel
theorem dSR_result_16 : decode cSR_result 16 = .ok (.aload_n 0, 1) := by decide +kernel
