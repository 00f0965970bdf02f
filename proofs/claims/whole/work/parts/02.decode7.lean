theorem dMO_result_83 : decode cMO_result 83 = .ok (.iload_n 1, 1) := by decide +kernel
theorem dMO_result_84 : decode cMO_result 84 = .ok (.dup2, 1) := by decide +kernel
theorem dMO_result_85 : decode cMO_result 85 = .ok (.iaload, 1) := by decide +kernel
theorem dMO_result_86 : decode cMO_result 86 = .ok (.iconst 1, 1) := by decide +kernel
theorem dMO_result_87 : decode cMO_result 87 = .ok (.iadd, 1) := by decide +kernel
theorem dMO_result_88 : decode cMO_result 88 = .ok (.iastore, 1) := by decide +kernel
theorem dMO_result_89 : decode cMO_result 89 = .ok (.iconst 1, 1) := by decide +kernel
theorem dMO_result_90 : decode cMO_result 90 = .ok (.ireturn, 1) := by decide +kernel
theorem dMO_again_0 : decode cMO_again 0 = .ok (.aload_n 0, 1) := by decide +kernel
theorem dMO_again_1 : decode cMO_again 1 = .ok (.iconst 0, 1) := by decide +kernel
theorem dMO_again_2 : decode cMO_again 2 = .ok (.putfield 57, 3) := by decide +kernel
theorem dMO_again_5 : decode cMO_again 5 = .ok (.aload_n 0, 1) := by decide +kernel
theorem dMO_again_6 : decode cMO_again 6 = .ok (.iload_n 1, 1) := by decide +kernel
theorem dMO_again_7 : decode cMO_again 7 = .ok (.invokevirtual 117, 3) := by decide +kernel
theorem dMO_again_10 : decode cMO_again 10 = .ok (.ifCond .eq 21, 3) := by decide +kernel
theorem dMO_again_13 : decode cMO_again 13 = .ok (.aload_n 0, 1) := by decide +kernel
theorem dMO_again_14 : decode cMO_again 14 = .ok (.getfield 25, 3) := by decide +kernel
theorem dMO_again_17 : decode cMO_again 17 = .ok (.iload_n 1, 1) := by decide +kernel
theorem dMO_again_18 : decode cMO_again 18 = .ok (.baload, 1) := by decide +kernel
theorem dMO_again_19 : decode cMO_again 19 = .ok (.ifCond .eq 12, 3) := by decide +kernel
theorem dMO_again_22 : decode cMO_again 22 = .ok (.aload_n 0, 1) := by decide +kernel
theorem dMO_again_23 : decode cMO_again 23 = .ok (.getfield 29, 3) := by decide +kernel
theorem dMO_again_26 : decode cMO_again 26 = .ok (.iload_n 1, 1) := by decide +kernel
theorem dMO_again_27 : decode cMO_again 27 = .ok (.baload, 1) := by decide +kernel
theorem dMO_again_28 : decode cMO_again 28 = .ok (.ifCond .eq 5, 3) := by decide +kernel
theorem dMO_again_31 : decode cMO_again 31 = .ok (.iconst 0, 1) := by decide +kernel
theorem dMO_again_32 : decode cMO_again 32 = .ok (.ireturn, 1) := by decide +kernel
theorem dMO_again_33 : decode cMO_again 33 = .ok (.aload_n 0, 1) := by decide +kernel
theorem dMO_again_34 : decode cMO_again 34 = .ok (.getfield 25, 3) := by decide +kernel
theorem dMO_again_37 : decode cMO_again 37 = .ok (.iload_n 1, 1) := by decide +kernel
theorem dMO_again_38 : decode cMO_again 38 = .ok (.iconst 0, 1) := by decide +kernel
theorem dMO_again_39 : decode cMO_again 39 = .ok (.bastore, 1) := by decide +kernel
theorem dMO_again_40 : decode cMO_again 40 = .ok (.iconst 1, 1) := by decide +kernel
theorem dMO_again_41 : decode cMO_again 41 = .ok (.ireturn, 1) := by decide +kernel
theorem dMO_strange_0 : decode cMO_strange 0 = .ok (.aload_n 0, 1) := by decide +kernel
theorem dMO_strange_1 : decode cMO_strange 1 = .ok (.iconst 0, 1) := by decide +kernel
theorem dMO_strange_2 : decode cMO_strange 2 = .ok (.putfield 57, 3) := by decide +kernel
theorem dMO_strange_5 : decode cMO_strange 5 = .ok (.aload_n 0, 1) := by decide +kernel
theorem dMO_strange_6 : decode cMO_strange 6 = .ok (.getfield 114, 3) := by decide +kernel
theorem dMO_strange_9 : decode cMO_strange 9 = .ok (.ireturn, 1) := by decide +kernel
theorem dMO_missing_0 : decode cMO_missing 0 = .ok (.aload_n 0, 1) := by decide +kernel
theorem dMO_missing_1 : decode cMO_missing 1 = .ok (.iconst 0, 1) := by decide +kernel
theorem dMO_missing_2 : decode cMO_missing 2 = .ok (.putfield 57, 3) := by decide +kernel
theorem dMO_missing_5 : decode cMO_missing 5 = .ok (.iconst 0, 1) := by decide +kernel
theorem dMO_missing_6 : decode cMO_missing 6 = .ok (.istore_n 2, 1) := by decide +kernel
theorem dMO_missing_7 : decode cMO_missing 7 = .ok (.iconst 0, 1) := by decide +kernel
theorem dMO_missing_8 : decode cMO_missing 8 = .ok (.istore_n 3, 1) := by decide +kernel
theorem dMO_missing_9 : decode cMO_missing 9 = .ok (.aload_n 0, 1) := by decide +kernel
theorem dMO_missing_10 : decode cMO_missing 10 = .ok (.iload_n 3, 1) := by decide +kernel
theorem dMO_missing_11 : decode cMO_missing 11 = .ok (.invokevirtual 117, 3) := by decide +kernel
theorem dMO_missing_14 : decode cMO_missing 14 = .ok (.ifCond .eq 31, 3) := by decide +kernel
theorem dMO_missing_17 : decode cMO_missing 17 = .ok (.aload_n 0, 1) := by decide +kernel
theorem dMO_missing_18 : decode cMO_missing 18 = .ok (.getfield 25, 3) := by decide +kernel
theorem dMO_missing_21 : decode cMO_missing 21 = .ok (.iload_n 3, 1) := by decide +kernel
theorem dMO_missing_22 : decode cMO_missing 22 = .ok (.baload, 1) := by decide +kernel
theorem dMO_missing_23 : decode cMO_missing 23 = .ok (.ifCond .eq 6, 3) := by decide +kernel
theorem dMO_missing_26 : decode cMO_missing 26 = .ok (.goto 13, 3) := by decide +kernel
theorem dMO_missing_29 : decode cMO_missing 29 = .ok (.iload_n 2, 1) := by decide +kernel
theorem dMO_missing_30 : decode cMO_missing 30 = .ok (.iload_n 1, 1) := by decide +kernel
theorem dMO_missing_31 : decode cMO_missing 31 = .ok (.if_icmp .ne 5, 3) := by decide +kernel
theorem dMO_missing_34 : decode cMO_missing 34 = .ok (.iload_n 3, 1) := by decide +kernel
theorem dMO_missing_35 : decode cMO_missing 35 = .ok (.ireturn, 1) := by decide +kernel
theorem dMO_missing_36 : decode cMO_missing 36 = .ok (.iinc 2 1, 3) := by decide +kernel
theorem dMO_missing_39 : decode cMO_missing 39 = .ok (.iinc 3 1, 3) := by decide +kernel
theorem dMO_missing_42 : decode cMO_missing 42 = .ok (.goto (-33), 3) := by decide +kernel
theorem dMO_missing_45 : decode cMO_missing 45 = .ok (.iconst (-1), 1) := by decide +kernel
theorem dMO_missing_46 : decode cMO_missing 46 = .ok (.ireturn, 1) := by decide +kernel
theorem dMO_verdict_0 : decode cMO_verdict 0 = .ok (.aload_n 0, 1) := by decide +kernel
theorem dMO_verdict_1 : decode cMO_verdict 1 = .ok (.iconst 0, 1) := by decide +kernel
theorem dMO_verdict_2 : decode cMO_verdict 2 = .ok (.putfield 57, 3) := by decide +kernel
theorem dMO_verdict_5 : decode cMO_verdict 5 = .ok (.aload_n 0, 1) := by decide +kernel
theorem dMO_verdict_6 : decode cMO_verdict 6 = .ok (.getfield 104, 3) := by decide +kernel
theorem dMO_verdict_9 : decode cMO_verdict 9 = .ok (.ifCond .ne 5, 3) := by decide +kernel
theorem dMO_verdict_12 : decode cMO_verdict 12 = .ok (.iconst (-1), 1) := by decide +kernel
theorem dMO_verdict_13 : decode cMO_verdict 13 = .ok (.ireturn, 1) := by decide +kernel
theorem dMO_verdict_14 : decode cMO_verdict 14 = .ok (.iconst 1, 1) := by decide +kernel
theorem dMO_verdict_15 : decode cMO_verdict 15 = .ok (.istore_n 1, 1) := by decide +kernel
theorem dMO_verdict_16 : decode cMO_verdict 16 = .ok (.iconst 1, 1) := by decide +kernel
theorem dMO_verdict_17 : decode cMO_verdict 17 = .ok (.istore_n 2, 1) := by decide +kernel
theorem dMO_verdict_18 : decode cMO_verdict 18 = .ok (.iconst 0, 1) := by decide +kernel
theorem dMO_verdict_19 : decode cMO_verdict 19 = .ok (.istore_n 3, 1) := by decide +kernel
theorem dMO_verdict_20 : decode cMO_verdict 20 = .ok (.iload_n 3, 1) := by decide +kernel
theorem dMO_verdict_21 : decode cMO_verdict 21 = .ok (.aload_n 0, 1) := by decide +kernel
theorem dMO_verdict_22 : decode cMO_verdict 22 = .ok (.getfield 111, 3) := by decide +kernel
theorem dMO_verdict_25 : decode cMO_verdict 25 = .ok (.if_icmp .ge 47, 3) := by decide +kernel
theorem dMO_verdict_28 : decode cMO_verdict 28 = .ok (.iload_n 1, 1) := by decide +kernel
theorem dMO_verdict_29 : decode cMO_verdict 29 = .ok (.ifCond .eq 16, 3) := by decide +kernel
theorem dMO_verdict_32 : decode cMO_verdict 32 = .ok (.aload_n 0, 1) := by decide +kernel
theorem dMO_verdict_33 : decode cMO_verdict 33 = .ok (.getfield 25, 3) := by decide +kernel
theorem dMO_verdict_36 : decode cMO_verdict 36 = .ok (.iload_n 3, 1) := by decide +kernel
theorem dMO_verdict_37 : decode cMO_verdict 37 = .ok (.baload, 1) := by decide +kernel
theorem dMO_verdict_38 : decode cMO_verdict 38 = .ok (.ifCond .eq 7, 3) := by decide +kernel
theorem dMO_verdict_41 : decode cMO_verdict 41 = .ok (.iconst 1, 1) := by decide +kernel
theorem dMO_verdict_42 : decode cMO_verdict 42 = .ok (.goto 4, 3) := by decide +kernel
theorem dMO_verdict_45 : decode cMO_verdict 45 = .ok (.iconst 0, 1) := by decide +kernel
theorem dMO_verdict_46 : decode cMO_verdict 46 = .ok (.istore_n 1, 1) := by decide +kernel
theorem dMO_verdict_47 : decode cMO_verdict 47 = .ok (.iload_n 2, 1) := by decide +kernel
theorem dMO_verdict_48 : decode cMO_verdict 48 = .ok (.ifCond .eq 16, 3) := by decide +kernel
theorem dMO_verdict_51 : decode cMO_verdict 51 = .ok (.aload_n 0, 1) := by decide +kernel
theorem dMO_verdict_52 : decode cMO_verdict 52 = .ok (.getfield 29, 3) := by decide +kernel
theorem dMO_verdict_55 : decode cMO_verdict 55 = .ok (.iload_n 3, 1) := by decide +kernel
theorem dMO_verdict_56 : decode cMO_verdict 56 = .ok (.baload, 1) := by decide +kernel
theorem dMO_verdict_57 : decode cMO_verdict 57 = .ok (.ifCond .eq 7, 3) := by decide +kernel
theorem dMO_verdict_60 : decode cMO_verdict 60 = .ok (.iconst 1, 1) := by decide +kernel
theorem dMO_verdict_61 : decode cMO_verdict 61 = .ok (.goto 4, 3) := by decide +kernel
theorem dMO_verdict_64 : decode cMO_verdict 64 = .ok (.iconst 0, 1) := by decide +kernel
theorem dMO_verdict_65 : decode cMO_verdict 65 = .ok (.istore_n 2, 1) := by decide +kernel
theorem dMO_verdict_66 : decode cMO_verdict 66 = .ok (.iinc 3 1, 3) := by decide +kernel
theorem dMO_verdict_69 : decode cMO_verdict 69 = .ok (.goto (-49), 3) := by decide +kernel
theorem dMO_verdict_72 : decode cMO_verdict 72 = .ok (.iload_n 1, 1) := by decide +kernel
theorem dMO_verdict_73 : decode cMO_verdict 73 = .ok (.ifCond .ne 7, 3) := by decide +kernel
theorem dMO_verdict_76 : decode cMO_verdict 76 = .ok (.iconst 0, 1) := by decide +kernel
theorem dMO_verdict_77 : decode cMO_verdict 77 = .ok (.goto 12, 3) := by decide +kernel
theorem dMO_verdict_80 : decode cMO_verdict 80 = .ok (.iload_n 2, 1) := by decide +kernel
theorem dMO_verdict_81 : decode cMO_verdict 81 = .ok (.ifCond .eq 7, 3) := by decide +kernel
theorem dMO_verdict_84 : decode cMO_verdict 84 = .ok (.iconst 1, 1) := by decide +kernel
theorem dMO_verdict_85 : decode cMO_verdict 85 = .ok (.goto 4, 3) := by decide +kernel
theorem dMO_verdict_88 : decode cMO_verdict 88 = .ok (.iconst 2, 1) := by decide +kernel
theorem dMO_verdict_89 : decode cMO_verdict 89 = .ok (.ireturn, 1) := by decide +kernel
theorem dMO_tries_0 : decode cMO_tries 0 = .ok (.aload_n 0, 1) := by decide +kernel
theorem dMO_tries_1 : decode cMO_tries 1 = .ok (.iconst 0, 1) := by decide +kernel
theorem dMO_tries_2 : decode cMO_tries 2 = .ok (.putfield 57, 3) := by decide +kernel
theorem dMO_tries_5 : decode cMO_tries 5 = .ok (.aload_n 0, 1) := by decide +kernel
theorem dMO_tries_6 : decode cMO_tries 6 = .ok (.iload_n 1, 1) := by decide +kernel
theorem dMO_tries_7 : decode cMO_tries 7 = .ok (.invokevirtual 117, 3) := by decide +kernel
theorem dMO_tries_10 : decode cMO_tries 10 = .ok (.ifCond .eq 12, 3) := by decide +kernel
theorem dMO_tries_13 : decode cMO_tries 13 = .ok (.aload_n 0, 1) := by decide +kernel
theorem dMO_tries_14 : decode cMO_tries 14 = .ok (.getfield 32, 3) := by decide +kernel
theorem dMO_tries_17 : decode cMO_tries 17 = .ok (.iload_n 1, 1) := by decide +kernel
theorem dMO_tries_18 : decode cMO_tries 18 = .ok (.iaload, 1) := by decide +kernel
theorem dMO_tries_19 : decode cMO_tries 19 = .ok (.goto 4, 3) := by decide +kernel
theorem dMO_tries_22 : decode cMO_tries 22 = .ok (.iconst 0, 1) := by decide +kernel
theorem dMO_tries_23 : decode cMO_tries 23 = .ok (.ireturn, 1) := by decide +kernel
