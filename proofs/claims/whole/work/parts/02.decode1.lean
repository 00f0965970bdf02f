theorem dSR_init_0 : decode cSR_init 0 = .ok (.aload_n 0, 1) := by decide +kernel
theorem dSR_init_1 : decode cSR_init 1 = .ok (.invokespecial 1, 3) := by decide +kernel
theorem dSR_init_4 : decode cSR_init 4 = .ok (.aload_n 0, 1) := by decide +kernel
theorem dSR_init_5 : decode cSR_init 5 = .ok (.iconst 1, 1) := by decide +kernel
theorem dSR_init_6 : decode cSR_init 6 = .ok (.iconst 4, 1) := by decide +kernel
theorem dSR_init_7 : decode cSR_init 7 = .ok (.iload_n 1, 1) := by decide +kernel
theorem dSR_init_8 : decode cSR_init 8 = .ok (.invokestatic 9, 3) := by decide +kernel
theorem dSR_init_11 : decode cSR_init 11 = .ok (.invokestatic 15, 3) := by decide +kernel
theorem dSR_init_14 : decode cSR_init 14 = .ok (.putfield 18, 3) := by decide +kernel
theorem dSR_init_17 : decode cSR_init 17 = .ok (.aload_n 0, 1) := by decide +kernel
theorem dSR_init_18 : decode cSR_init 18 = .ok (.new 22, 3) := by decide +kernel
theorem dSR_init_21 : decode cSR_init 21 = .ok (.dup, 1) := by decide +kernel
theorem dSR_init_22 : decode cSR_init 22 = .ok (.invokespecial 24, 3) := by decide +kernel
theorem dSR_init_25 : decode cSR_init 25 = .ok (.putfield 25, 3) := by decide +kernel
theorem dSR_init_28 : decode cSR_init 28 = .ok (.aload_n 0, 1) := by decide +kernel
theorem dSR_init_29 : decode cSR_init 29 = .ok (.new 29, 3) := by decide +kernel
theorem dSR_init_32 : decode cSR_init 32 = .ok (.dup, 1) := by decide +kernel
theorem dSR_init_33 : decode cSR_init 33 = .ok (.invokespecial 31, 3) := by decide +kernel
theorem dSR_init_36 : decode cSR_init 36 = .ok (.putfield 32, 3) := by decide +kernel
theorem dSR_init_39 : decode cSR_init 39 = .ok (.aload_n 0, 1) := by decide +kernel
theorem dSR_init_40 : decode cSR_init 40 = .ok (.new 36, 3) := by decide +kernel
theorem dSR_init_43 : decode cSR_init 43 = .ok (.dup, 1) := by decide +kernel
theorem dSR_init_44 : decode cSR_init 44 = .ok (.invokespecial 38, 3) := by decide +kernel
theorem dSR_init_47 : decode cSR_init 47 = .ok (.putfield 39, 3) := by decide +kernel
theorem dSR_init_50 : decode cSR_init 50 = .ok (.aload_n 0, 1) := by decide +kernel
theorem dSR_init_51 : decode cSR_init 51 = .ok (.new 43, 3) := by decide +kernel
theorem dSR_init_54 : decode cSR_init 54 = .ok (.dup, 1) := by decide +kernel
theorem dSR_init_55 : decode cSR_init 55 = .ok (.invokespecial 45, 3) := by decide +kernel
theorem dSR_init_58 : decode cSR_init 58 = .ok (.putfield 46, 3) := by decide +kernel
theorem dSR_init_61 : decode cSR_init 61 = .ok (.aload_n 0, 1) := by decide +kernel
theorem dSR_init_62 : decode cSR_init 62 = .ok (.new 50, 3) := by decide +kernel
theorem dSR_init_65 : decode cSR_init 65 = .ok (.dup, 1) := by decide +kernel
theorem dSR_init_66 : decode cSR_init 66 = .ok (.invokespecial 52, 3) := by decide +kernel
theorem dSR_init_69 : decode cSR_init 69 = .ok (.putfield 53, 3) := by decide +kernel
theorem dSR_init_72 : decode cSR_init 72 = .ok (.aload_n 0, 1) := by decide +kernel
theorem dSR_init_73 : decode cSR_init 73 = .ok (.new 57, 3) := by decide +kernel
theorem dSR_init_76 : decode cSR_init 76 = .ok (.dup, 1) := by decide +kernel
theorem dSR_init_77 : decode cSR_init 77 = .ok (.invokespecial 59, 3) := by decide +kernel
theorem dSR_init_80 : decode cSR_init 80 = .ok (.putfield 60, 3) := by decide +kernel
theorem dSR_init_83 : decode cSR_init 83 = .ok (.aload_n 0, 1) := by decide +kernel
theorem dSR_init_84 : decode cSR_init 84 = .ok (.new 64, 3) := by decide +kernel
theorem dSR_init_87 : decode cSR_init 87 = .ok (.dup, 1) := by decide +kernel
theorem dSR_init_88 : decode cSR_init 88 = .ok (.invokespecial 66, 3) := by decide +kernel
theorem dSR_init_91 : decode cSR_init 91 = .ok (.putfield 67, 3) := by decide +kernel
theorem dSR_init_94 : decode cSR_init 94 = .ok (.return_, 1) := by decide +kernel
theorem dTR_init_0 : decode cTR_init 0 = .ok (.aload_n 0, 1) := by decide +kernel
theorem dTR_init_1 : decode cTR_init 1 = .ok (.invokespecial 3, 3) := by decide +kernel
theorem dTR_init_4 : decode cTR_init 4 = .ok (.aload_n 0, 1) := by decide +kernel
theorem dTR_init_5 : decode cTR_init 5 = .ok (.bipush 24, 2) := by decide +kernel
theorem dTR_init_7 : decode cTR_init 7 = .ok (.newarray .int, 2) := by decide +kernel
theorem dTR_init_9 : decode cTR_init 9 = .ok (.putfield 9, 3) := by decide +kernel
theorem dTR_init_12 : decode cTR_init 12 = .ok (.aload_n 0, 1) := by decide +kernel
theorem dTR_init_13 : decode cTR_init 13 = .ok (.bipush 24, 2) := by decide +kernel
theorem dTR_init_15 : decode cTR_init 15 = .ok (.newarray .int, 2) := by decide +kernel
theorem dTR_init_17 : decode cTR_init 17 = .ok (.putfield 15, 3) := by decide +kernel
theorem dTR_init_20 : decode cTR_init 20 = .ok (.return_, 1) := by decide +kernel
theorem dGR_init_0 : decode cGR_init 0 = .ok (.aload_n 0, 1) := by decide +kernel
theorem dGR_init_1 : decode cGR_init 1 = .ok (.invokespecial 3, 3) := by decide +kernel
theorem dGR_init_4 : decode cGR_init 4 = .ok (.aload_n 0, 1) := by decide +kernel
theorem dGR_init_5 : decode cGR_init 5 = .ok (.bipush 24, 2) := by decide +kernel
theorem dGR_init_7 : decode cGR_init 7 = .ok (.newarray .int, 2) := by decide +kernel
theorem dGR_init_9 : decode cGR_init 9 = .ok (.putfield 9, 3) := by decide +kernel
theorem dGR_init_12 : decode cGR_init 12 = .ok (.aload_n 0, 1) := by decide +kernel
theorem dGR_init_13 : decode cGR_init 13 = .ok (.bipush 24, 2) := by decide +kernel
theorem dGR_init_15 : decode cGR_init 15 = .ok (.newarray .int, 2) := by decide +kernel
theorem dGR_init_17 : decode cGR_init 17 = .ok (.putfield 15, 3) := by decide +kernel
theorem dGR_init_20 : decode cGR_init 20 = .ok (.aload_n 0, 1) := by decide +kernel
theorem dGR_init_21 : decode cGR_init 21 = .ok (.bipush 24, 2) := by decide +kernel
theorem dGR_init_23 : decode cGR_init 23 = .ok (.newarray .int, 2) := by decide +kernel
theorem dGR_init_25 : decode cGR_init 25 = .ok (.putfield 18, 3) := by decide +kernel
theorem dGR_init_28 : decode cGR_init 28 = .ok (.aload_n 0, 1) := by decide +kernel
theorem dGR_init_29 : decode cGR_init 29 = .ok (.bipush 24, 2) := by decide +kernel
theorem dGR_init_31 : decode cGR_init 31 = .ok (.newarray .int, 2) := by decide +kernel
theorem dGR_init_33 : decode cGR_init 33 = .ok (.putfield 21, 3) := by decide +kernel
theorem dGR_init_36 : decode cGR_init 36 = .ok (.return_, 1) := by decide +kernel
theorem dSE_init_0 : decode cSE_init 0 = .ok (.aload_n 0, 1) := by decide +kernel
theorem dSE_init_1 : decode cSE_init 1 = .ok (.invokespecial 3, 3) := by decide +kernel
theorem dSE_init_4 : decode cSE_init 4 = .ok (.aload_n 0, 1) := by decide +kernel
theorem dSE_init_5 : decode cSE_init 5 = .ok (.bipush 8, 2) := by decide +kernel
theorem dSE_init_7 : decode cSE_init 7 = .ok (.newarray .int, 2) := by decide +kernel
theorem dSE_init_9 : decode cSE_init 9 = .ok (.putfield 9, 3) := by decide +kernel
theorem dSE_init_12 : decode cSE_init 12 = .ok (.aload_n 0, 1) := by decide +kernel
theorem dSE_init_13 : decode cSE_init 13 = .ok (.iconst 4, 1) := by decide +kernel
theorem dSE_init_14 : decode cSE_init 14 = .ok (.newarray .int, 2) := by decide +kernel
theorem dSE_init_16 : decode cSE_init 16 = .ok (.putfield 15, 3) := by decide +kernel
theorem dSE_init_19 : decode cSE_init 19 = .ok (.aload_n 0, 1) := by decide +kernel
theorem dSE_init_20 : decode cSE_init 20 = .ok (.bipush 8, 2) := by decide +kernel
theorem dSE_init_22 : decode cSE_init 22 = .ok (.newarray .int, 2) := by decide +kernel
theorem dSE_init_24 : decode cSE_init 24 = .ok (.putfield 18, 3) := by decide +kernel
theorem dSE_init_27 : decode cSE_init 27 = .ok (.aload_n 0, 1) := by decide +kernel
theorem dSE_init_28 : decode cSE_init 28 = .ok (.bipush 8, 2) := by decide +kernel
theorem dSE_init_30 : decode cSE_init 30 = .ok (.newarray .int, 2) := by decide +kernel
theorem dSE_init_32 : decode cSE_init 32 = .ok (.putfield 21, 3) := by decide +kernel
theorem dSE_init_35 : decode cSE_init 35 = .ok (.aload_n 0, 1) := by decide +kernel
theorem dSE_init_36 : decode cSE_init 36 = .ok (.bipush 8, 2) := by decide +kernel
theorem dSE_init_38 : decode cSE_init 38 = .ok (.iconst 4, 1) := by decide +kernel
theorem dSE_init_39 : decode cSE_init 39 = .ok (.multianewarray 24 2, 4) := by decide +kernel
theorem dSE_init_43 : decode cSE_init 43 = .ok (.putfield 26, 3) := by decide +kernel
theorem dSE_init_46 : decode cSE_init 46 = .ok (.aload_n 0, 1) := by decide +kernel
theorem dSE_init_47 : decode cSE_init 47 = .ok (.bipush 9, 2) := by decide +kernel
theorem dSE_init_49 : decode cSE_init 49 = .ok (.newarray .int, 2) := by decide +kernel
theorem dSE_init_51 : decode cSE_init 51 = .ok (.putfield 29, 3) := by decide +kernel
theorem dSE_init_54 : decode cSE_init 54 = .ok (.return_, 1) := by decide +kernel
theorem dGY_init_0 : decode cGY_init 0 = .ok (.aload_n 0, 1) := by decide +kernel
theorem dGY_init_1 : decode cGY_init 1 = .ok (.invokespecial 3, 3) := by decide +kernel
theorem dGY_init_4 : decode cGY_init 4 = .ok (.aload_n 0, 1) := by decide +kernel
theorem dGY_init_5 : decode cGY_init 5 = .ok (.iconst 4, 1) := by decide +kernel
theorem dGY_init_6 : decode cGY_init 6 = .ok (.newarray .int, 2) := by decide +kernel
theorem dGY_init_8 : decode cGY_init 8 = .ok (.putfield 9, 3) := by decide +kernel
theorem dGY_init_11 : decode cGY_init 11 = .ok (.return_, 1) := by decide +kernel
theorem dSP_init_0 : decode cSP_init 0 = .ok (.aload_n 0, 1) := by decide +kernel
theorem dSP_init_1 : decode cSP_init 1 = .ok (.invokespecial 3, 3) := by decide +kernel
theorem dSP_init_4 : decode cSP_init 4 = .ok (.aload_n 0, 1) := by decide +kernel
theorem dSP_init_5 : decode cSP_init 5 = .ok (.iconst 4, 1) := by decide +kernel
theorem dSP_init_6 : decode cSP_init 6 = .ok (.newarray .int, 2) := by decide +kernel
theorem dSP_init_8 : decode cSP_init 8 = .ok (.putfield 9, 3) := by decide +kernel
theorem dSP_init_11 : decode cSP_init 11 = .ok (.aload_n 0, 1) := by decide +kernel
theorem dSP_init_12 : decode cSP_init 12 = .ok (.iconst 4, 1) := by decide +kernel
theorem dSP_init_13 : decode cSP_init 13 = .ok (.newarray .int, 2) := by decide +kernel
theorem dSP_init_15 : decode cSP_init 15 = .ok (.putfield 15, 3) := by decide +kernel
theorem dSP_init_18 : decode cSP_init 18 = .ok (.aload_n 0, 1) := by decide +kernel
theorem dSP_init_19 : decode cSP_init 19 = .ok (.bipush 24, 2) := by decide +kernel
theorem dSP_init_21 : decode cSP_init 21 = .ok (.newarray .int, 2) := by decide +kernel
theorem dSP_init_23 : decode cSP_init 23 = .ok (.putfield 18, 3) := by decide +kernel
theorem dSP_init_26 : decode cSP_init 26 = .ok (.aload_n 0, 1) := by decide +kernel
theorem dSP_init_27 : decode cSP_init 27 = .ok (.getfield 18, 3) := by decide +kernel
theorem dSP_init_30 : decode cSP_init 30 = .ok (.iconst (-1), 1) := by decide +kernel
theorem dSP_init_31 : decode cSP_init 31 = .ok (.invokestatic 21, 3) := by decide +kernel
theorem dSP_init_34 : decode cSP_init 34 = .ok (.return_, 1) := by decide +kernel
theorem dAR_fill_0 : decode cAR_fill 0 = .ok (.iconst 0, 1) := by decide +kernel
theorem dAR_fill_1 : decode cAR_fill 1 = .ok (.istore_n 2, 1) := by decide +kernel
theorem dAR_fill_2 : decode cAR_fill 2 = .ok (.aload_n 0, 1) := by decide +kernel
theorem dAR_fill_3 : decode cAR_fill 3 = .ok (.arraylength, 1) := by decide +kernel
theorem dAR_fill_4 : decode cAR_fill 4 = .ok (.istore_n 3, 1) := by decide +kernel
theorem dAR_fill_5 : decode cAR_fill 5 = .ok (.iload_n 2, 1) := by decide +kernel
theorem dAR_fill_6 : decode cAR_fill 6 = .ok (.iload_n 3, 1) := by decide +kernel
theorem dAR_fill_7 : decode cAR_fill 7 = .ok (.if_icmp .ge 13, 3) := by decide +kernel
theorem dAR_fill_10 : decode cAR_fill 10 = .ok (.aload_n 0, 1) := by decide +kernel
theorem dAR_fill_11 : decode cAR_fill 11 = .ok (.iload_n 2, 1) := by decide +kernel
theorem dAR_fill_12 : decode cAR_fill 12 = .ok (.iload_n 1, 1) := by decide +kernel
theorem dAR_fill_13 : decode cAR_fill 13 = .ok (.iastore, 1) := by decide +kernel
theorem dAR_fill_14 : decode cAR_fill 14 = .ok (.iinc 2 1, 3) := by decide +kernel
theorem dAR_fill_17 : decode cAR_fill 17 = .ok (.goto (-12), 3) := by decide +kernel
theorem dAR_fill_20 : decode cAR_fill 20 = .ok (.return_, 1) := by decide +kernel
theorem dRR_init_0 : decode cRR_init 0 = .ok (.aload_n 0, 1) := by decide +kernel
theorem dRR_init_1 : decode cRR_init 1 = .ok (.invokespecial 3, 3) := by decide +kernel
theorem dRR_init_4 : decode cRR_init 4 = .ok (.aload_n 0, 1) := by decide +kernel
theorem dRR_init_5 : decode cRR_init 5 = .ok (.bipush 24, 2) := by decide +kernel
theorem dRR_init_7 : decode cRR_init 7 = .ok (.newarray .boolean, 2) := by decide +kernel
theorem dRR_init_9 : decode cRR_init 9 = .ok (.putfield 9, 3) := by decide +kernel
theorem dRR_init_12 : decode cRR_init 12 = .ok (.aload_n 0, 1) := by decide +kernel
theorem dRR_init_13 : decode cRR_init 13 = .ok (.bipush 24, 2) := by decide +kernel
theorem dRR_init_15 : decode cRR_init 15 = .ok (.newarray .int, 2) := by decide +kernel
theorem dRR_init_17 : decode cRR_init 17 = .ok (.putfield 15, 3) := by decide +kernel
theorem dRR_init_20 : decode cRR_init 20 = .ok (.aload_n 0, 1) := by decide +kernel
theorem dRR_init_21 : decode cRR_init 21 = .ok (.bipush 24, 2) := by decide +kernel
theorem dRR_init_23 : decode cRR_init 23 = .ok (.newarray .int, 2) := by decide +kernel
theorem dRR_init_25 : decode cRR_init 25 = .ok (.putfield 19, 3) := by decide +kernel
theorem dRR_init_28 : decode cRR_init 28 = .ok (.return_, 1) := by decide +kernel
theorem dDR_init_0 : decode cDR_init 0 = .ok (.aload_n 0, 1) := by decide +kernel
theorem dDR_init_1 : decode cDR_init 1 = .ok (.invokespecial 3, 3) := by decide +kernel
theorem dDR_init_4 : decode cDR_init 4 = .ok (.aload_n 0, 1) := by decide +kernel
theorem dDR_init_5 : decode cDR_init 5 = .ok (.bipush 24, 2) := by decide +kernel
theorem dDR_init_7 : decode cDR_init 7 = .ok (.newarray .int, 2) := by decide +kernel
theorem dDR_init_9 : decode cDR_init 9 = .ok (.putfield 9, 3) := by decide +kernel
theorem dDR_init_12 : decode cDR_init 12 = .ok (.return_, 1) := by decide +kernel
theorem dSR_test_0 : decode cSR_test 0 = .ok (.aload_n 0, 1) := by decide +kernel
theorem dSR_test_1 : decode cSR_test 1 = .ok (.getfield 25, 3) := by decide +kernel
theorem dSR_test_4 : decode cSR_test 4 = .ok (.iload_n 1, 1) := by decide +kernel
theorem dSR_test_5 : decode cSR_test 5 = .ok (.invokevirtual 71, 3) := by decide +kernel
theorem dSR_test_8 : decode cSR_test 8 = .ok (.ireturn, 1) := by decide +kernel
theorem dTR_add_0 : decode cTR_add 0 = .ok (.aload_n 0, 1) := by decide +kernel
theorem dTR_add_1 : decode cTR_add 1 = .ok (.getfield 18, 3) := by decide +kernel
theorem dTR_add_4 : decode cTR_add 4 = .ok (.bipush 24, 2) := by decide +kernel
theorem dTR_add_6 : decode cTR_add 6 = .ok (.if_icmp .ge 10, 3) := by decide +kernel
theorem dTR_add_9 : decode cTR_add 9 = .ok (.iload_n 1, 1) := by decide +kernel
theorem dTR_add_10 : decode cTR_add 10 = .ok (.invokestatic 22, 3) := by decide +kernel
theorem dTR_add_13 : decode cTR_add 13 = .ok (.ifCond .ne 5, 3) := by decide +kernel
theorem dTR_add_16 : decode cTR_add 16 = .ok (.iconst (-1), 1) := by decide +kernel
theorem dTR_add_17 : decode cTR_add 17 = .ok (.ireturn, 1) := by decide +kernel
theorem dTR_add_18 : decode cTR_add 18 = .ok (.aload_n 0, 1) := by decide +kernel
theorem dTR_add_19 : decode cTR_add 19 = .ok (.getfield 18, 3) := by decide +kernel
theorem dTR_add_22 : decode cTR_add 22 = .ok (.istore_n 2, 1) := by decide +kernel
theorem dTR_add_23 : decode cTR_add 23 = .ok (.aload_n 0, 1) := by decide +kernel
theorem dTR_add_24 : decode cTR_add 24 = .ok (.getfield 9, 3) := by decide +kernel
theorem dTR_add_27 : decode cTR_add 27 = .ok (.iload_n 2, 1) := by decide +kernel
theorem dTR_add_28 : decode cTR_add 28 = .ok (.iload_n 1, 1) := by decide +kernel
theorem dTR_add_29 : decode cTR_add 29 = .ok (.iastore, 1) := by decide +kernel
theorem dTR_add_30 : decode cTR_add 30 = .ok (.aload_n 0, 1) := by decide +kernel
theorem dTR_add_31 : decode cTR_add 31 = .ok (.getfield 15, 3) := by decide +kernel
theorem dTR_add_34 : decode cTR_add 34 = .ok (.iload_n 2, 1) := by decide +kernel
theorem dTR_add_35 : decode cTR_add 35 = .ok (.iload_n 2, 1) := by decide +kernel
theorem dTR_add_36 : decode cTR_add 36 = .ok (.iastore, 1) := by decide +kernel
theorem dTR_add_37 : decode cTR_add 37 = .ok (.aload_n 0, 1) := by decide +kernel
theorem dTR_add_38 : decode cTR_add 38 = .ok (.dup, 1) := by decide +kernel
theorem dTR_add_39 : decode cTR_add 39 = .ok (.getfield 18, 3) := by decide +kernel
theorem dTR_add_42 : decode cTR_add 42 = .ok (.iconst 1, 1) := by decide +kernel
theorem dTR_add_43 : decode cTR_add 43 = .ok (.iadd, 1) := by decide +kernel
theorem dTR_add_44 : decode cTR_add 44 = .ok (.putfield 18, 3) := by decide +kernel
theorem dTR_add_47 : decode cTR_add 47 = .ok (.iload_n 2, 1) := by decide +kernel
theorem dTR_add_48 : decode cTR_add 48 = .ok (.ireturn, 1) := by decide +kernel
theorem dTR_isTime_0 : decode cTR_isTime 0 = .ok (.iload_n 0, 1) := by decide +kernel
theorem dTR_isTime_1 : decode cTR_isTime 1 = .ok (.ifCond .lt 13, 3) := by decide +kernel
theorem dTR_isTime_4 : decode cTR_isTime 4 = .ok (.iload_n 0, 1) := by decide +kernel
theorem dTR_isTime_5 : decode cTR_isTime 5 = .ok (.ldc 38, 2) := by decide +kernel
theorem dTR_isTime_7 : decode cTR_isTime 7 = .ok (.if_icmp .gt 7, 3) := by decide +kernel
theorem dTR_isTime_10 : decode cTR_isTime 10 = .ok (.iconst 1, 1) := by decide +kernel
theorem dTR_isTime_11 : decode cTR_isTime 11 = .ok (.goto 4, 3) := by decide +kernel
theorem dTR_isTime_14 : decode cTR_isTime 14 = .ok (.iconst 0, 1) := by decide +kernel
theorem dTR_isTime_15 : decode cTR_isTime 15 = .ok (.ireturn, 1) := by decide +kernel
theorem dSR_time_0 : decode cSR_time 0 = .ok (.aload_n 0, 1) := by decide +kernel
theorem dSR_time_1 : decode cSR_time 1 = .ok (.getfield 25, 3) := by decide +kernel
theorem dSR_time_4 : decode cSR_time 4 = .ok (.iload_n 1, 1) := by decide +kernel
theorem dSR_time_5 : decode cSR_time 5 = .ok (.iload_n 2, 1) := by decide +kernel
theorem dSR_time_6 : decode cSR_time 6 = .ok (.invokevirtual 75, 3) := by decide +kernel
theorem dSR_time_9 : decode cSR_time 9 = .ok (.ireturn, 1) := by decide +kernel
theorem dTR_retime_0 : decode cTR_retime 0 = .ok (.aload_n 0, 1) := by decide +kernel
theorem dTR_retime_1 : decode cTR_retime 1 = .ok (.iload_n 1, 1) := by decide +kernel
theorem dTR_retime_2 : decode cTR_retime 2 = .ok (.invokevirtual 26, 3) := by decide +kernel
theorem dTR_retime_5 : decode cTR_retime 5 = .ok (.ifCond .eq 10, 3) := by decide +kernel
theorem dTR_retime_8 : decode cTR_retime 8 = .ok (.iload_n 2, 1) := by decide +kernel
theorem dTR_retime_9 : decode cTR_retime 9 = .ok (.invokestatic 22, 3) := by decide +kernel
theorem dTR_retime_12 : decode cTR_retime 12 = .ok (.ifCond .ne 5, 3) := by decide +kernel
theorem dTR_retime_15 : decode cTR_retime 15 = .ok (.iconst 0, 1) := by decide +kernel
theorem dTR_retime_16 : decode cTR_retime 16 = .ok (.ireturn, 1) := by decide +kernel
theorem dTR_retime_17 : decode cTR_retime 17 = .ok (.aload_n 0, 1) := by decide +kernel
theorem dTR_retime_18 : decode cTR_retime 18 = .ok (.getfield 9, 3) := by decide +kernel
theorem dTR_retime_21 : decode cTR_retime 21 = .ok (.iload_n 1, 1) := by decide +kernel
theorem dTR_retime_22 : decode cTR_retime 22 = .ok (.iload_n 2, 1) := by decide +kernel
theorem dTR_retime_23 : decode cTR_retime 23 = .ok (.iastore, 1) := by decide +kernel
theorem dTR_retime_24 : decode cTR_retime 24 = .ok (.iconst 1, 1) := by decide +kernel
theorem dTR_retime_25 : decode cTR_retime 25 = .ok (.ireturn, 1) := by decide +kernel
theorem dTR_has_0 : decode cTR_has 0 = .ok (.iload_n 1, 1) := by decide +kernel
theorem dTR_has_1 : decode cTR_has 1 = .ok (.ifCond .lt 15, 3) := by decide +kernel
theorem dTR_has_4 : decode cTR_has 4 = .ok (.iload_n 1, 1) := by decide +kernel
theorem dTR_has_5 : decode cTR_has 5 = .ok (.aload_n 0, 1) := by decide +kernel
theorem dTR_has_6 : decode cTR_has 6 = .ok (.getfield 18, 3) := by decide +kernel
theorem dTR_has_9 : decode cTR_has 9 = .ok (.if_icmp .ge 7, 3) := by decide +kernel
theorem dTR_has_12 : decode cTR_has 12 = .ok (.iconst 1, 1) := by decide +kernel
theorem dTR_has_13 : decode cTR_has 13 = .ok (.goto 4, 3) := by decide +kernel
theorem dTR_has_16 : decode cTR_has 16 = .ok (.iconst 0, 1) := by decide +kernel
theorem dTR_has_17 : decode cTR_has 17 = .ok (.ireturn, 1) := by decide +kernel
theorem dSR_join_0 : decode cSR_join 0 = .ok (.aload_n 0, 1) := by decide +kernel
theorem dSR_join_1 : decode cSR_join 1 = .ok (.getfield 25, 3) := by decide +kernel
theorem dSR_join_4 : decode cSR_join 4 = .ok (.iload_n 1, 1) := by decide +kernel
theorem dSR_join_5 : decode cSR_join 5 = .ok (.iload_n 2, 1) := by decide +kernel
theorem dSR_join_6 : decode cSR_join 6 = .ok (.invokevirtual 79, 3) := by decide +kernel
theorem dSR_join_9 : decode cSR_join 9 = .ok (.ireturn, 1) := by decide +kernel
theorem dTR_unite_0 : decode cTR_unite 0 = .ok (.aload_n 0, 1) := by decide +kernel
theorem dTR_unite_1 : decode cTR_unite 1 = .ok (.iload_n 1, 1) := by decide +kernel
theorem dTR_unite_2 : decode cTR_unite 2 = .ok (.invokevirtual 26, 3) := by decide +kernel
theorem dTR_unite_5 : decode cTR_unite 5 = .ok (.ifCond .eq 26, 3) := by decide +kernel
theorem dTR_unite_8 : decode cTR_unite 8 = .ok (.aload_n 0, 1) := by decide +kernel
theorem dTR_unite_9 : decode cTR_unite 9 = .ok (.iload_n 2, 1) := by decide +kernel
theorem dTR_unite_10 : decode cTR_unite 10 = .ok (.invokevirtual 26, 3) := by decide +kernel
theorem dTR_unite_13 : decode cTR_unite 13 = .ok (.ifCond .eq 18, 3) := by decide +kernel
theorem dTR_unite_16 : decode cTR_unite 16 = .ok (.aload_n 0, 1) := by decide +kernel
theorem dTR_unite_17 : decode cTR_unite 17 = .ok (.getfield 15, 3) := by decide +kernel
theorem dTR_unite_20 : decode cTR_unite 20 = .ok (.iload_n 1, 1) := by decide +kernel
theorem dTR_unite_21 : decode cTR_unite 21 = .ok (.iaload, 1) := by decide +kernel
theorem dTR_unite_22 : decode cTR_unite 22 = .ok (.aload_n 0, 1) := by decide +kernel
theorem dTR_unite_23 : decode cTR_unite 23 = .ok (.getfield 15, 3) := by decide +kernel
theorem dTR_unite_26 : decode cTR_unite 26 = .ok (.iload_n 2, 1) := by decide +kernel
theorem dTR_unite_27 : decode cTR_unite 27 = .ok (.iaload, 1) := by decide +kernel
theorem dTR_unite_28 : decode cTR_unite 28 = .ok (.if_icmp .ne 5, 3) := by decide +kernel
theorem dTR_unite_31 : decode cTR_unite 31 = .ok (.iconst 0, 1) := by decide +kernel
theorem dTR_unite_32 : decode cTR_unite 32 = .ok (.ireturn, 1) := by decide +kernel
theorem dTR_unite_33 : decode cTR_unite 33 = .ok (.aload_n 0, 1) := by decide +kernel
theorem dTR_unite_34 : decode cTR_unite 34 = .ok (.getfield 15, 3) := by decide +kernel
theorem dTR_unite_37 : decode cTR_unite 37 = .ok (.iload_n 1, 1) := by decide +kernel
theorem dTR_unite_38 : decode cTR_unite 38 = .ok (.iaload, 1) := by decide +kernel
theorem dTR_unite_39 : decode cTR_unite 39 = .ok (.aload_n 0, 1) := by decide +kernel
theorem dTR_unite_40 : decode cTR_unite 40 = .ok (.getfield 15, 3) := by decide +kernel
theorem dTR_unite_43 : decode cTR_unite 43 = .ok (.iload_n 2, 1) := by decide +kernel
theorem dTR_unite_44 : decode cTR_unite 44 = .ok (.iaload, 1) := by decide +kernel
theorem dTR_unite_45 : decode cTR_unite 45 = .ok (.invokestatic 29, 3) := by decide +kernel
theorem dTR_unite_48 : decode cTR_unite 48 = .ok (.istore_n 3, 1) := by decide +kernel
theorem dTR_unite_49 : decode cTR_unite 49 = .ok (.aload_n 0, 1) := by decide +kernel
theorem dTR_unite_50 : decode cTR_unite 50 = .ok (.getfield 15, 3) := by decide +kernel
theorem dTR_unite_53 : decode cTR_unite 53 = .ok (.iload_n 1, 1) := by decide +kernel
theorem dTR_unite_54 : decode cTR_unite 54 = .ok (.iaload, 1) := by decide +kernel
theorem dTR_unite_55 : decode cTR_unite 55 = .ok (.aload_n 0, 1) := by decide +kernel
theorem dTR_unite_56 : decode cTR_unite 56 = .ok (.getfield 15, 3) := by decide +kernel
theorem dTR_unite_59 : decode cTR_unite 59 = .ok (.iload_n 2, 1) := by decide +kernel
theorem dTR_unite_60 : decode cTR_unite 60 = .ok (.iaload, 1) := by decide +kernel
theorem dTR_unite_61 : decode cTR_unite 61 = .ok (.invokestatic 35, 3) := by decide +kernel
theorem dTR_unite_64 : decode cTR_unite 64 = .ok (.istore 4, 2) := by decide +kernel
theorem dTR_unite_66 : decode cTR_unite 66 = .ok (.iconst 0, 1) := by decide +kernel
theorem dTR_unite_67 : decode cTR_unite 67 = .ok (.istore 5, 2) := by decide +kernel
theorem dTR_unite_69 : decode cTR_unite 69 = .ok (.iload 5, 2) := by decide +kernel
theorem dTR_unite_71 : decode cTR_unite 71 = .ok (.aload_n 0, 1) := by decide +kernel
theorem dTR_unite_72 : decode cTR_unite 72 = .ok (.getfield 18, 3) := by decide +kernel
theorem dTR_unite_75 : decode cTR_unite 75 = .ok (.if_icmp .ge 29, 3) := by decide +kernel
theorem dTR_unite_78 : decode cTR_unite 78 = .ok (.aload_n 0, 1) := by decide +kernel
theorem dTR_unite_79 : decode cTR_unite 79 = .ok (.getfield 15, 3) := by decide +kernel
theorem dTR_unite_82 : decode cTR_unite 82 = .ok (.iload 5, 2) := by decide +kernel
theorem dTR_unite_84 : decode cTR_unite 84 = .ok (.iaload, 1) := by decide +kernel
theorem dTR_unite_85 : decode cTR_unite 85 = .ok (.iload 4, 2) := by decide +kernel
theorem dTR_unite_87 : decode cTR_unite 87 = .ok (.if_icmp .ne 11, 3) := by decide +kernel
theorem dTR_unite_90 : decode cTR_unite 90 = .ok (.aload_n 0, 1) := by decide +kernel
theorem dTR_unite_91 : decode cTR_unite 91 = .ok (.getfield 15, 3) := by decide +kernel
theorem dTR_unite_94 : decode cTR_unite 94 = .ok (.iload 5, 2) := by decide +kernel
theorem dTR_unite_96 : decode cTR_unite 96 = .ok (.iload_n 3, 1) := by decide +kernel
theorem dTR_unite_97 : decode cTR_unite 97 = .ok (.iastore, 1) := by decide +kernel
theorem dTR_unite_98 : decode cTR_unite 98 = .ok (.iinc 5 1, 3) := by decide +kernel
theorem dTR_unite_101 : decode cTR_unite 101 = .ok (.goto (-32), 3) := by decide +kernel
theorem dTR_unite_104 : decode cTR_unite 104 = .ok (.iconst 1, 1) := by decide +kernel
theorem dTR_unite_105 : decode cTR_unite 105 = .ok (.ireturn, 1) := by decide +kernel
theorem dSR_shards_0 : decode cSR_shards 0 = .ok (.iload_n 1, 1) := by decide +kernel
theorem dSR_shards_1 : decode cSR_shards 1 = .ok (.iconst 1, 1) := by decide +kernel
theorem dSR_shards_2 : decode cSR_shards 2 = .ok (.if_icmp .lt 8, 3) := by decide +kernel
theorem dSR_shards_5 : decode cSR_shards 5 = .ok (.iload_n 1, 1) := by decide +kernel
theorem dSR_shards_6 : decode cSR_shards 6 = .ok (.iconst 4, 1) := by decide +kernel
theorem dSR_shards_7 : decode cSR_shards 7 = .ok (.if_icmp .le 5, 3) := by decide +kernel
theorem dSR_shards_10 : decode cSR_shards 10 = .ok (.iconst 0, 1) := by decide +kernel
theorem dSR_shards_11 : decode cSR_shards 11 = .ok (.ireturn, 1) := by decide +kernel
theorem dSR_shards_12 : decode cSR_shards 12 = .ok (.aload_n 0, 1) := by decide +kernel
theorem dSR_shards_13 : decode cSR_shards 13 = .ok (.iload_n 1, 1) := by decide +kernel
theorem dSR_shards_14 : decode cSR_shards 14 = .ok (.putfield 18, 3) := by decide +kernel
theorem dSR_shards_17 : decode cSR_shards 17 = .ok (.iconst 1, 1) := by decide +kernel
theorem dSR_shards_18 : decode cSR_shards 18 = .ok (.ireturn, 1) := by decide +kernel
theorem dSR_mean_0 : decode cSR_mean 0 = .ok (.aload_n 0, 1) := by decide +kernel
theorem dSR_mean_1 : decode cSR_mean 1 = .ok (.getfield 25, 3) := by decide +kernel
theorem dSR_mean_4 : decode cSR_mean 4 = .ok (.invokevirtual 82, 3) := by decide +kernel
theorem dSR_mean_7 : decode cSR_mean 7 = .ok (.ireturn, 1) := by decide +kernel
theorem dTR_meanTime_0 : decode cTR_meanTime 0 = .ok (.iconst 0, 1) := by decide +kernel
theorem dTR_meanTime_1 : decode cTR_meanTime 1 = .ok (.istore_n 1, 1) := by decide +kernel
theorem dTR_meanTime_2 : decode cTR_meanTime 2 = .ok (.iconst 0, 1) := by decide +kernel
theorem dTR_meanTime_3 : decode cTR_meanTime 3 = .ok (.istore_n 2, 1) := by decide +kernel
theorem dTR_meanTime_4 : decode cTR_meanTime 4 = .ok (.iconst 0, 1) := by decide +kernel
theorem dTR_meanTime_5 : decode cTR_meanTime 5 = .ok (.istore_n 3, 1) := by decide +kernel
theorem dTR_meanTime_6 : decode cTR_meanTime 6 = .ok (.iload_n 3, 1) := by decide +kernel
theorem dTR_meanTime_7 : decode cTR_meanTime 7 = .ok (.aload_n 0, 1) := by decide +kernel
theorem dTR_meanTime_8 : decode cTR_meanTime 8 = .ok (.getfield 18, 3) := by decide +kernel
theorem dTR_meanTime_11 : decode cTR_meanTime 11 = .ok (.if_icmp .ge 35, 3) := by decide +kernel
theorem dTR_meanTime_14 : decode cTR_meanTime 14 = .ok (.iload_n 1, 1) := by decide +kernel
theorem dTR_meanTime_15 : decode cTR_meanTime 15 = .ok (.aload_n 0, 1) := by decide +kernel
theorem dTR_meanTime_16 : decode cTR_meanTime 16 = .ok (.getfield 9, 3) := by decide +kernel
theorem dTR_meanTime_19 : decode cTR_meanTime 19 = .ok (.iload_n 3, 1) := by decide +kernel
theorem dTR_meanTime_20 : decode cTR_meanTime 20 = .ok (.iaload, 1) := by decide +kernel
theorem dTR_meanTime_21 : decode cTR_meanTime 21 = .ok (.iadd, 1) := by decide +kernel
theorem dTR_meanTime_22 : decode cTR_meanTime 22 = .ok (.istore_n 1, 1) := by decide +kernel
theorem dTR_meanTime_23 : decode cTR_meanTime 23 = .ok (.iload_n 2, 1) := by decide +kernel
theorem dTR_meanTime_24 : decode cTR_meanTime 24 = .ok (.aload_n 0, 1) := by decide +kernel
theorem dTR_meanTime_25 : decode cTR_meanTime 25 = .ok (.getfield 9, 3) := by decide +kernel
theorem dTR_meanTime_28 : decode cTR_meanTime 28 = .ok (.iload_n 3, 1) := by decide +kernel
theorem dTR_meanTime_29 : decode cTR_meanTime 29 = .ok (.iaload, 1) := by decide +kernel
theorem dTR_meanTime_30 : decode cTR_meanTime 30 = .ok (.ifCond .ne 7, 3) := by decide +kernel
theorem dTR_meanTime_33 : decode cTR_meanTime 33 = .ok (.iconst 0, 1) := by decide +kernel
theorem dTR_meanTime_34 : decode cTR_meanTime 34 = .ok (.goto 4, 3) := by decide +kernel
theorem dTR_meanTime_37 : decode cTR_meanTime 37 = .ok (.iconst 1, 1) := by decide +kernel
theorem dTR_meanTime_38 : decode cTR_meanTime 38 = .ok (.iadd, 1) := by decide +kernel
theorem dTR_meanTime_39 : decode cTR_meanTime 39 = .ok (.istore_n 2, 1) := by decide +kernel
theorem dTR_meanTime_40 : decode cTR_meanTime 40 = .ok (.iinc 3 1, 3) := by decide +kernel
theorem dTR_meanTime_43 : decode cTR_meanTime 43 = .ok (.goto (-37), 3) := by decide +kernel
theorem dTR_meanTime_46 : decode cTR_meanTime 46 = .ok (.iload_n 2, 1) := by decide +kernel
theorem dTR_meanTime_47 : decode cTR_meanTime 47 = .ok (.ifCond .ne 7, 3) := by decide +kernel
theorem dTR_meanTime_50 : decode cTR_meanTime 50 = .ok (.iconst 1, 1) := by decide +kernel
theorem dTR_meanTime_51 : decode cTR_meanTime 51 = .ok (.goto 10, 3) := by decide +kernel
theorem dTR_meanTime_54 : decode cTR_meanTime 54 = .ok (.iload_n 1, 1) := by decide +kernel
theorem dTR_meanTime_55 : decode cTR_meanTime 55 = .ok (.iload_n 2, 1) := by decide +kernel
theorem dTR_meanTime_56 : decode cTR_meanTime 56 = .ok (.iadd, 1) := by decide +kernel
theorem dTR_meanTime_57 : decode cTR_meanTime 57 = .ok (.iconst 1, 1) := by decide +kernel
theorem dTR_meanTime_58 : decode cTR_meanTime 58 = .ok (.isub, 1) := by decide +kernel
theorem dTR_meanTime_59 : decode cTR_meanTime 59 = .ok (.iload_n 2, 1) := by decide +kernel
theorem dTR_meanTime_60 : decode cTR_meanTime 60 = .ok (.idiv, 1) := by decide +kernel
theorem dTR_meanTime_61 : decode cTR_meanTime 61 = .ok (.ireturn, 1) := by decide +kernel
theorem dSR_groups_0 : decode cSR_groups 0 = .ok (.aload_n 0, 1) := by decide +kernel
theorem dSR_groups_1 : decode cSR_groups 1 = .ok (.getfield 25, 3) := by decide +kernel
theorem dSR_groups_4 : decode cSR_groups 4 = .ok (.invokevirtual 86, 3) := by decide +kernel
theorem dSR_groups_7 : decode cSR_groups 7 = .ok (.ireturn, 1) := by decide +kernel
theorem dTR_countGroups_0 : decode cTR_countGroups 0 = .ok (.iconst 0, 1) := by decide +kernel
theorem dTR_countGroups_1 : decode cTR_countGroups 1 = .ok (.istore_n 1, 1) := by decide +kernel
theorem dTR_countGroups_2 : decode cTR_countGroups 2 = .ok (.iconst 0, 1) := by decide +kernel
theorem dTR_countGroups_3 : decode cTR_countGroups 3 = .ok (.istore_n 2, 1) := by decide +kernel
theorem dTR_countGroups_4 : decode cTR_countGroups 4 = .ok (.iload_n 2, 1) := by decide +kernel
theorem dTR_countGroups_5 : decode cTR_countGroups 5 = .ok (.aload_n 0, 1) := by decide +kernel
theorem dTR_countGroups_6 : decode cTR_countGroups 6 = .ok (.getfield 18, 3) := by decide +kernel
theorem dTR_countGroups_9 : decode cTR_countGroups 9 = .ok (.if_icmp .ge 27, 3) := by decide +kernel
theorem dTR_countGroups_12 : decode cTR_countGroups 12 = .ok (.iload_n 1, 1) := by decide +kernel
theorem dTR_countGroups_13 : decode cTR_countGroups 13 = .ok (.aload_n 0, 1) := by decide +kernel
theorem dTR_countGroups_14 : decode cTR_countGroups 14 = .ok (.getfield 15, 3) := by decide +kernel
theorem dTR_countGroups_17 : decode cTR_countGroups 17 = .ok (.iload_n 2, 1) := by decide +kernel
theorem dTR_countGroups_18 : decode cTR_countGroups 18 = .ok (.iaload, 1) := by decide +kernel
theorem dTR_countGroups_19 : decode cTR_countGroups 19 = .ok (.iload_n 2, 1) := by decide +kernel
theorem dTR_countGroups_20 : decode cTR_countGroups 20 = .ok (.if_icmp .ne 7, 3) := by decide +kernel
theorem dTR_countGroups_23 : decode cTR_countGroups 23 = .ok (.iconst 1, 1) := by decide +kernel
theorem dTR_countGroups_24 : decode cTR_countGroups 24 = .ok (.goto 4, 3) := by decide +kernel
theorem dTR_countGroups_27 : decode cTR_countGroups 27 = .ok (.iconst 0, 1) := by decide +kernel
theorem dTR_countGroups_28 : decode cTR_countGroups 28 = .ok (.iadd, 1) := by decide +kernel
theorem dTR_countGroups_29 : decode cTR_countGroups 29 = .ok (.istore_n 1, 1) := by decide +kernel
theorem dTR_countGroups_30 : decode cTR_countGroups 30 = .ok (.iinc 2 1, 3) := by decide +kernel
theorem dTR_countGroups_33 : decode cTR_countGroups 33 = .ok (.goto (-29), 3) := by decide +kernel
theorem dTR_countGroups_36 : decode cTR_countGroups 36 = .ok (.iload_n 1, 1) := by decide +kernel
theorem dTR_countGroups_37 : decode cTR_countGroups 37 = .ok (.ireturn, 1) := by decide +kernel
theorem dSR_split_0 : decode cSR_split 0 = .ok (.aload_n 0, 1) := by decide +kernel
theorem dSR_split_1 : decode cSR_split 1 = .ok (.getfield 32, 3) := by decide +kernel
theorem dSR_split_4 : decode cSR_split 4 = .ok (.aload_n 0, 1) := by decide +kernel
theorem dSR_split_5 : decode cSR_split 5 = .ok (.getfield 25, 3) := by decide +kernel
theorem dSR_split_8 : decode cSR_split 8 = .ok (.invokevirtual 89, 3) := by decide +kernel
theorem dSR_split_11 : decode cSR_split 11 = .ok (.aload_n 0, 1) := by decide +kernel
theorem dSR_split_12 : decode cSR_split 12 = .ok (.getfield 32, 3) := by decide +kernel
theorem dSR_split_15 : decode cSR_split 15 = .ok (.getfield 93, 3) := by decide +kernel
theorem dSR_split_18 : decode cSR_split 18 = .ok (.bipush 8, 2) := by decide +kernel
theorem dSR_split_20 : decode cSR_split 20 = .ok (.if_icmp .gt 25, 3) := by decide +kernel
theorem dSR_split_23 : decode cSR_split 23 = .ok (.aload_n 0, 1) := by decide +kernel
theorem dSR_split_24 : decode cSR_split 24 = .ok (.getfield 39, 3) := by decide +kernel
theorem dSR_split_27 : decode cSR_split 27 = .ok (.aload_n 0, 1) := by decide +kernel
theorem dSR_split_28 : decode cSR_split 28 = .ok (.getfield 32, 3) := by decide +kernel
theorem dSR_split_31 : decode cSR_split 31 = .ok (.aload_n 0, 1) := by decide +kernel
theorem dSR_split_32 : decode cSR_split 32 = .ok (.getfield 53, 3) := by decide +kernel
theorem dSR_split_35 : decode cSR_split 35 = .ok (.aload_n 0, 1) := by decide +kernel
theorem dSR_split_36 : decode cSR_split 36 = .ok (.getfield 18, 3) := by decide +kernel
theorem dSR_split_39 : decode cSR_split 39 = .ok (.invokevirtual 96, 3) := by decide +kernel
theorem dSR_split_42 : decode cSR_split 42 = .ok (.goto 22, 3) := by decide +kernel
theorem dSR_split_45 : decode cSR_split 45 = .ok (.aload_n 0, 1) := by decide +kernel
theorem dSR_split_46 : decode cSR_split 46 = .ok (.getfield 46, 3) := by decide +kernel
theorem dSR_split_49 : decode cSR_split 49 = .ok (.aload_n 0, 1) := by decide +kernel
theorem dSR_split_50 : decode cSR_split 50 = .ok (.getfield 32, 3) := by decide +kernel
theorem dSR_split_53 : decode cSR_split 53 = .ok (.aload_n 0, 1) := by decide +kernel
theorem dSR_split_54 : decode cSR_split 54 = .ok (.getfield 53, 3) := by decide +kernel
theorem dSR_split_57 : decode cSR_split 57 = .ok (.aload_n 0, 1) := by decide +kernel
theorem dSR_split_58 : decode cSR_split 58 = .ok (.getfield 18, 3) := by decide +kernel
theorem dSR_split_61 : decode cSR_split 61 = .ok (.invokevirtual 100, 3) := by decide +kernel
theorem dSR_split_64 : decode cSR_split 64 = .ok (.aload_n 0, 1) := by decide +kernel
theorem dSR_split_65 : decode cSR_split 65 = .ok (.getfield 53, 3) := by decide +kernel
theorem dSR_split_68 : decode cSR_split 68 = .ok (.aload_n 0, 1) := by decide +kernel
theorem dSR_split_69 : decode cSR_split 69 = .ok (.getfield 32, 3) := by decide +kernel
theorem dSR_split_72 : decode cSR_split 72 = .ok (.aload_n 0, 1) := by decide +kernel
theorem dSR_split_73 : decode cSR_split 73 = .ok (.getfield 18, 3) := by decide +kernel
theorem dSR_split_76 : decode cSR_split 76 = .ok (.invokevirtual 101, 3) := by decide +kernel
theorem dSR_split_79 : decode cSR_split 79 = .ok (.aload_n 0, 1) := by decide +kernel
theorem dSR_split_80 : decode cSR_split 80 = .ok (.getfield 60, 3) := by decide +kernel
theorem dSR_split_83 : decode cSR_split 83 = .ok (.invokevirtual 105, 3) := by decide +kernel
theorem dSR_split_86 : decode cSR_split 86 = .ok (.aload_n 0, 1) := by decide +kernel
theorem dSR_split_87 : decode cSR_split 87 = .ok (.getfield 53, 3) := by decide +kernel
theorem dSR_split_90 : decode cSR_split 90 = .ok (.invokevirtual 108, 3) := by decide +kernel
theorem dSR_split_93 : decode cSR_split 93 = .ok (.ireturn, 1) := by decide +kernel
theorem dGR_gather_0 : decode cGR_gather 0 = .ok (.aload_n 1, 1) := by decide +kernel
theorem dGR_gather_1 : decode cGR_gather 1 = .ok (.invokevirtual 24, 3) := by decide +kernel
theorem dGR_gather_4 : decode cGR_gather 4 = .ok (.istore_n 2, 1) := by decide +kernel
theorem dGR_gather_5 : decode cGR_gather 5 = .ok (.aload_n 0, 1) := by decide +kernel
theorem dGR_gather_6 : decode cGR_gather 6 = .ok (.iconst 0, 1) := by decide +kernel
theorem dGR_gather_7 : decode cGR_gather 7 = .ok (.putfield 30, 3) := by decide +kernel
theorem dGR_gather_10 : decode cGR_gather 10 = .ok (.aload_n 0, 1) := by decide +kernel
theorem dGR_gather_11 : decode cGR_gather 11 = .ok (.aload_n 1, 1) := by decide +kernel
theorem dGR_gather_12 : decode cGR_gather 12 = .ok (.getfield 34, 3) := by decide +kernel
theorem dGR_gather_15 : decode cGR_gather 15 = .ok (.putfield 35, 3) := by decide +kernel
theorem dGR_gather_18 : decode cGR_gather 18 = .ok (.iconst 0, 1) := by decide +kernel
theorem dGR_gather_19 : decode cGR_gather 19 = .ok (.istore_n 3, 1) := by decide +kernel
