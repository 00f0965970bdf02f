theorem dSR_result_17 : decode cSR_result 17 = .ok (.getfield 53, 3) := by decide +kernel
theorem dSR_result_20 : decode cSR_result 20 = .ok (.iload_n 2, 1) := by decide +kernel
theorem dSR_result_21 : decode cSR_result 21 = .ok (.invokevirtual 114, 3) := by decide +kernel
theorem dSR_result_24 : decode cSR_result 24 = .ok (.ifCond .ne 5, 3) := by decide +kernel
theorem dSR_result_27 : decode cSR_result 27 = .ok (.iconst (-1), 1) := by decide +kernel
theorem dSR_result_28 : decode cSR_result 28 = .ok (.ireturn, 1) := by decide +kernel
theorem dSR_result_29 : decode cSR_result 29 = .ok (.iload 4, 2) := by decide +kernel
theorem dSR_result_31 : decode cSR_result 31 = .ok (.iload_n 2, 1) := by decide +kernel
theorem dSR_result_32 : decode cSR_result 32 = .ok (.if_icmp .eq 19, 3) := by decide +kernel
theorem dSR_result_35 : decode cSR_result 35 = .ok (.aload_n 0, 1) := by decide +kernel
theorem dSR_result_36 : decode cSR_result 36 = .ok (.getfield 60, 3) := by decide +kernel
theorem dSR_result_39 : decode cSR_result 39 = .ok (.dup, 1) := by decide +kernel
theorem dSR_result_40 : decode cSR_result 40 = .ok (.getfield 142, 3) := by decide +kernel
theorem dSR_result_43 : decode cSR_result 43 = .ok (.iconst 1, 1) := by decide +kernel
theorem dSR_result_44 : decode cSR_result 44 = .ok (.iadd, 1) := by decide +kernel
theorem dSR_result_45 : decode cSR_result 45 = .ok (.putfield 142, 3) := by decide +kernel
theorem dSR_result_48 : decode cSR_result 48 = .ok (.bipush (-2), 2) := by decide +kernel
theorem dSR_result_50 : decode cSR_result 50 = .ok (.ireturn, 1) := by decide +kernel
theorem dSR_result_51 : decode cSR_result 51 = .ok (.aload_n 0, 1) := by decide +kernel
theorem dSR_result_52 : decode cSR_result 52 = .ok (.getfield 60, 3) := by decide +kernel
theorem dSR_result_55 : decode cSR_result 55 = .ok (.iload_n 1, 1) := by decide +kernel
theorem dSR_result_56 : decode cSR_result 56 = .ok (.iload_n 3, 1) := by decide +kernel
theorem dSR_result_57 : decode cSR_result 57 = .ok (.invokevirtual 145, 3) := by decide +kernel
theorem dSR_result_60 : decode cSR_result 60 = .ok (.ifCond .eq 7, 3) := by decide +kernel
theorem dSR_result_63 : decode cSR_result 63 = .ok (.iconst 1, 1) := by decide +kernel
theorem dSR_result_64 : decode cSR_result 64 = .ok (.goto 4, 3) := by decide +kernel
theorem dSR_result_67 : decode cSR_result 67 = .ok (.iconst 0, 1) := by decide +kernel
theorem dSR_result_68 : decode cSR_result 68 = .ok (.ireturn, 1) := by decide +kernel
theorem dRR_put_0 : decode cRR_put 0 = .ok (.iload_n 1, 1) := by decide +kernel
theorem dRR_put_1 : decode cRR_put 1 = .ok (.invokestatic 32, 3) := by decide +kernel
theorem dRR_put_4 : decode cRR_put 4 = .ok (.ifCond .eq 12, 3) := by decide +kernel
theorem dRR_put_7 : decode cRR_put 7 = .ok (.aload_n 0, 1) := by decide +kernel
theorem dRR_put_8 : decode cRR_put 8 = .ok (.getfield 9, 3) := by decide +kernel
theorem dRR_put_11 : decode cRR_put 11 = .ok (.iload_n 1, 1) := by decide +kernel
theorem dRR_put_12 : decode cRR_put 12 = .ok (.baload, 1) := by decide +kernel
theorem dRR_put_13 : decode cRR_put 13 = .ok (.ifCond .eq 5, 3) := by decide +kernel
theorem dRR_put_16 : decode cRR_put 16 = .ok (.iconst 0, 1) := by decide +kernel
theorem dRR_put_17 : decode cRR_put 17 = .ok (.ireturn, 1) := by decide +kernel
theorem dRR_put_18 : decode cRR_put 18 = .ok (.aload_n 0, 1) := by decide +kernel
theorem dRR_put_19 : decode cRR_put 19 = .ok (.getfield 9, 3) := by decide +kernel
theorem dRR_put_22 : decode cRR_put 22 = .ok (.iload_n 1, 1) := by decide +kernel
theorem dRR_put_23 : decode cRR_put 23 = .ok (.iconst 1, 1) := by decide +kernel
theorem dRR_put_24 : decode cRR_put 24 = .ok (.bastore, 1) := by decide +kernel
theorem dRR_put_25 : decode cRR_put 25 = .ok (.aload_n 0, 1) := by decide +kernel
theorem dRR_put_26 : decode cRR_put 26 = .ok (.getfield 15, 3) := by decide +kernel
theorem dRR_put_29 : decode cRR_put 29 = .ok (.iload_n 1, 1) := by decide +kernel
theorem dRR_put_30 : decode cRR_put 30 = .ok (.iload_n 2, 1) := by decide +kernel
theorem dRR_put_31 : decode cRR_put 31 = .ok (.iastore, 1) := by decide +kernel
theorem dRR_put_32 : decode cRR_put 32 = .ok (.aload_n 0, 1) := by decide +kernel
theorem dRR_put_33 : decode cRR_put 33 = .ok (.getfield 19, 3) := by decide +kernel
theorem dRR_put_36 : decode cRR_put 36 = .ok (.iload_n 1, 1) := by decide +kernel
theorem dRR_put_37 : decode cRR_put 37 = .ok (.dup2, 1) := by decide +kernel
theorem dRR_put_38 : decode cRR_put 38 = .ok (.iaload, 1) := by decide +kernel
theorem dRR_put_39 : decode cRR_put 39 = .ok (.iconst 1, 1) := by decide +kernel
theorem dRR_put_40 : decode cRR_put 40 = .ok (.iadd, 1) := by decide +kernel
theorem dRR_put_41 : decode cRR_put 41 = .ok (.iastore, 1) := by decide +kernel
theorem dRR_put_42 : decode cRR_put 42 = .ok (.iconst 1, 1) := by decide +kernel
theorem dRR_put_43 : decode cRR_put 43 = .ok (.ireturn, 1) := by decide +kernel
theorem dSR_again_0 : decode cSR_again 0 = .ok (.aload_n 0, 1) := by decide +kernel
theorem dSR_again_1 : decode cSR_again 1 = .ok (.getfield 60, 3) := by decide +kernel
theorem dSR_again_4 : decode cSR_again 4 = .ok (.iload_n 1, 1) := by decide +kernel
theorem dSR_again_5 : decode cSR_again 5 = .ok (.invokevirtual 148, 3) := by decide +kernel
theorem dSR_again_8 : decode cSR_again 8 = .ok (.ireturn, 1) := by decide +kernel
theorem dRR_dropBad_0 : decode cRR_dropBad 0 = .ok (.aload_n 0, 1) := by decide +kernel
theorem dRR_dropBad_1 : decode cRR_dropBad 1 = .ok (.iload_n 1, 1) := by decide +kernel
theorem dRR_dropBad_2 : decode cRR_dropBad 2 = .ok (.invokevirtual 36, 3) := by decide +kernel
theorem dRR_dropBad_5 : decode cRR_dropBad 5 = .ok (.ifCond .ne 5, 3) := by decide +kernel
theorem dRR_dropBad_8 : decode cRR_dropBad 8 = .ok (.iconst 0, 1) := by decide +kernel
theorem dRR_dropBad_9 : decode cRR_dropBad 9 = .ok (.ireturn, 1) := by decide +kernel
theorem dRR_dropBad_10 : decode cRR_dropBad 10 = .ok (.aload_n 0, 1) := by decide +kernel
theorem dRR_dropBad_11 : decode cRR_dropBad 11 = .ok (.getfield 9, 3) := by decide +kernel
theorem dRR_dropBad_14 : decode cRR_dropBad 14 = .ok (.iload_n 1, 1) := by decide +kernel
theorem dRR_dropBad_15 : decode cRR_dropBad 15 = .ok (.iconst 0, 1) := by decide +kernel
theorem dRR_dropBad_16 : decode cRR_dropBad 16 = .ok (.bastore, 1) := by decide +kernel
theorem dRR_dropBad_17 : decode cRR_dropBad 17 = .ok (.iconst 1, 1) := by decide +kernel
theorem dRR_dropBad_18 : decode cRR_dropBad 18 = .ok (.ireturn, 1) := by decide +kernel
theorem dRR_isBad_0 : decode cRR_isBad 0 = .ok (.aload_n 0, 1) := by decide +kernel
theorem dRR_isBad_1 : decode cRR_isBad 1 = .ok (.iload_n 1, 1) := by decide +kernel
theorem dRR_isBad_2 : decode cRR_isBad 2 = .ok (.invokevirtual 39, 3) := by decide +kernel
theorem dRR_isBad_5 : decode cRR_isBad 5 = .ok (.ifCond .eq 16, 3) := by decide +kernel
theorem dRR_isBad_8 : decode cRR_isBad 8 = .ok (.aload_n 0, 1) := by decide +kernel
theorem dRR_isBad_9 : decode cRR_isBad 9 = .ok (.getfield 15, 3) := by decide +kernel
theorem dRR_isBad_12 : decode cRR_isBad 12 = .ok (.iload_n 1, 1) := by decide +kernel
theorem dRR_isBad_13 : decode cRR_isBad 13 = .ok (.iaload, 1) := by decide +kernel
theorem dRR_isBad_14 : decode cRR_isBad 14 = .ok (.ifCond .eq 7, 3) := by decide +kernel
theorem dRR_isBad_17 : decode cRR_isBad 17 = .ok (.iconst 1, 1) := by decide +kernel
theorem dRR_isBad_18 : decode cRR_isBad 18 = .ok (.goto 4, 3) := by decide +kernel
theorem dRR_isBad_21 : decode cRR_isBad 21 = .ok (.iconst 0, 1) := by decide +kernel
theorem dRR_isBad_22 : decode cRR_isBad 22 = .ok (.ireturn, 1) := by decide +kernel
theorem dRR_has_0 : decode cRR_has 0 = .ok (.iload_n 1, 1) := by decide +kernel
theorem dRR_has_1 : decode cRR_has 1 = .ok (.invokestatic 32, 3) := by decide +kernel
theorem dRR_has_4 : decode cRR_has 4 = .ok (.ifCond .eq 16, 3) := by decide +kernel
theorem dRR_has_7 : decode cRR_has 7 = .ok (.aload_n 0, 1) := by decide +kernel
theorem dRR_has_8 : decode cRR_has 8 = .ok (.getfield 9, 3) := by decide +kernel
theorem dRR_has_11 : decode cRR_has 11 = .ok (.iload_n 1, 1) := by decide +kernel
theorem dRR_has_12 : decode cRR_has 12 = .ok (.baload, 1) := by decide +kernel
theorem dRR_has_13 : decode cRR_has 13 = .ok (.ifCond .eq 7, 3) := by decide +kernel
theorem dRR_has_16 : decode cRR_has 16 = .ok (.iconst 1, 1) := by decide +kernel
theorem dRR_has_17 : decode cRR_has 17 = .ok (.goto 4, 3) := by decide +kernel
theorem dRR_has_20 : decode cRR_has 20 = .ok (.iconst 0, 1) := by decide +kernel
theorem dRR_has_21 : decode cRR_has 21 = .ok (.ireturn, 1) := by decide +kernel
theorem dSR_strange_0 : decode cSR_strange 0 = .ok (.aload_n 0, 1) := by decide +kernel
theorem dSR_strange_1 : decode cSR_strange 1 = .ok (.getfield 60, 3) := by decide +kernel
theorem dSR_strange_4 : decode cSR_strange 4 = .ok (.getfield 142, 3) := by decide +kernel
theorem dSR_strange_7 : decode cSR_strange 7 = .ok (.ireturn, 1) := by decide +kernel
theorem dSR_missing_0 : decode cSR_missing 0 = .ok (.iconst 0, 1) := by decide +kernel
theorem dSR_missing_1 : decode cSR_missing 1 = .ok (.istore_n 2, 1) := by decide +kernel
theorem dSR_missing_2 : decode cSR_missing 2 = .ok (.iconst 0, 1) := by decide +kernel
theorem dSR_missing_3 : decode cSR_missing 3 = .ok (.istore_n 3, 1) := by decide +kernel
theorem dSR_missing_4 : decode cSR_missing 4 = .ok (.iload_n 3, 1) := by decide +kernel
theorem dSR_missing_5 : decode cSR_missing 5 = .ok (.bipush 24, 2) := by decide +kernel
theorem dSR_missing_7 : decode cSR_missing 7 = .ok (.if_icmp .ge 27, 3) := by decide +kernel
theorem dSR_missing_10 : decode cSR_missing 10 = .ok (.aload_n 0, 1) := by decide +kernel
theorem dSR_missing_11 : decode cSR_missing 11 = .ok (.iload_n 3, 1) := by decide +kernel
theorem dSR_missing_12 : decode cSR_missing 12 = .ok (.invokevirtual 151, 3) := by decide +kernel
theorem dSR_missing_15 : decode cSR_missing 15 = .ok (.ifCond .eq 13, 3) := by decide +kernel
theorem dSR_missing_18 : decode cSR_missing 18 = .ok (.iload_n 2, 1) := by decide +kernel
theorem dSR_missing_19 : decode cSR_missing 19 = .ok (.iload_n 1, 1) := by decide +kernel
theorem dSR_missing_20 : decode cSR_missing 20 = .ok (.if_icmp .ne 5, 3) := by decide +kernel
theorem dSR_missing_23 : decode cSR_missing 23 = .ok (.iload_n 3, 1) := by decide +kernel
theorem dSR_missing_24 : decode cSR_missing 24 = .ok (.ireturn, 1) := by decide +kernel
theorem dSR_missing_25 : decode cSR_missing 25 = .ok (.iinc 2 1, 3) := by decide +kernel
theorem dSR_missing_28 : decode cSR_missing 28 = .ok (.iinc 3 1, 3) := by decide +kernel
theorem dSR_missing_31 : decode cSR_missing 31 = .ok (.goto (-27), 3) := by decide +kernel
theorem dSR_missing_34 : decode cSR_missing 34 = .ok (.iconst (-1), 1) := by decide +kernel
theorem dSR_missing_35 : decode cSR_missing 35 = .ok (.ireturn, 1) := by decide +kernel
theorem dSR_isMissing_0 : decode cSR_isMissing 0 = .ok (.aload_n 0, 1) := by decide +kernel
theorem dSR_isMissing_1 : decode cSR_isMissing 1 = .ok (.getfield 53, 3) := by decide +kernel
theorem dSR_isMissing_4 : decode cSR_isMissing 4 = .ok (.iload_n 1, 1) := by decide +kernel
theorem dSR_isMissing_5 : decode cSR_isMissing 5 = .ok (.invokevirtual 111, 3) := by decide +kernel
theorem dSR_isMissing_8 : decode cSR_isMissing 8 = .ok (.iconst (-1), 1) := by decide +kernel
theorem dSR_isMissing_9 : decode cSR_isMissing 9 = .ok (.if_icmp .eq 18, 3) := by decide +kernel
theorem dSR_isMissing_12 : decode cSR_isMissing 12 = .ok (.aload_n 0, 1) := by decide +kernel
theorem dSR_isMissing_13 : decode cSR_isMissing 13 = .ok (.getfield 60, 3) := by decide +kernel
theorem dSR_isMissing_16 : decode cSR_isMissing 16 = .ok (.iload_n 1, 1) := by decide +kernel
theorem dSR_isMissing_17 : decode cSR_isMissing 17 = .ok (.invokevirtual 164, 3) := by decide +kernel
theorem dSR_isMissing_20 : decode cSR_isMissing 20 = .ok (.ifCond .ne 7, 3) := by decide +kernel
theorem dSR_isMissing_23 : decode cSR_isMissing 23 = .ok (.iconst 1, 1) := by decide +kernel
theorem dSR_isMissing_24 : decode cSR_isMissing 24 = .ok (.goto 4, 3) := by decide +kernel
theorem dSR_isMissing_27 : decode cSR_isMissing 27 = .ok (.iconst 0, 1) := by decide +kernel
theorem dSR_isMissing_28 : decode cSR_isMissing 28 = .ok (.ireturn, 1) := by decide +kernel
theorem dSR_verdict_0 : decode cSR_verdict 0 = .ok (.aload_n 0, 1) := by decide +kernel
theorem dSR_verdict_1 : decode cSR_verdict 1 = .ok (.getfield 53, 3) := by decide +kernel
theorem dSR_verdict_4 : decode cSR_verdict 4 = .ok (.getfield 125, 3) := by decide +kernel
theorem dSR_verdict_7 : decode cSR_verdict 7 = .ok (.ifCond .ne 5, 3) := by decide +kernel
theorem dSR_verdict_10 : decode cSR_verdict 10 = .ok (.iconst (-1), 1) := by decide +kernel
theorem dSR_verdict_11 : decode cSR_verdict 11 = .ok (.ireturn, 1) := by decide +kernel
theorem dSR_verdict_12 : decode cSR_verdict 12 = .ok (.aload_n 0, 1) := by decide +kernel
theorem dSR_verdict_13 : decode cSR_verdict 13 = .ok (.iconst 0, 1) := by decide +kernel
theorem dSR_verdict_14 : decode cSR_verdict 14 = .ok (.invokevirtual 154, 3) := by decide +kernel
theorem dSR_verdict_17 : decode cSR_verdict 17 = .ok (.iconst (-1), 1) := by decide +kernel
theorem dSR_verdict_18 : decode cSR_verdict 18 = .ok (.if_icmp .eq 5, 3) := by decide +kernel
theorem dSR_verdict_21 : decode cSR_verdict 21 = .ok (.iconst 0, 1) := by decide +kernel
theorem dSR_verdict_22 : decode cSR_verdict 22 = .ok (.ireturn, 1) := by decide +kernel
theorem dSR_verdict_23 : decode cSR_verdict 23 = .ok (.aload_n 0, 1) := by decide +kernel
theorem dSR_verdict_24 : decode cSR_verdict 24 = .ok (.getfield 60, 3) := by decide +kernel
theorem dSR_verdict_27 : decode cSR_verdict 27 = .ok (.invokevirtual 157, 3) := by decide +kernel
theorem dSR_verdict_30 : decode cSR_verdict 30 = .ok (.ifCond .eq 7, 3) := by decide +kernel
theorem dSR_verdict_33 : decode cSR_verdict 33 = .ok (.iconst 2, 1) := by decide +kernel
theorem dSR_verdict_34 : decode cSR_verdict 34 = .ok (.goto 4, 3) := by decide +kernel
theorem dSR_verdict_37 : decode cSR_verdict 37 = .ok (.iconst 1, 1) := by decide +kernel
theorem dSR_verdict_38 : decode cSR_verdict 38 = .ok (.ireturn, 1) := by decide +kernel
theorem dRR_anyBad_0 : decode cRR_anyBad 0 = .ok (.iconst 0, 1) := by decide +kernel
theorem dRR_anyBad_1 : decode cRR_anyBad 1 = .ok (.istore_n 1, 1) := by decide +kernel
theorem dRR_anyBad_2 : decode cRR_anyBad 2 = .ok (.iload_n 1, 1) := by decide +kernel
theorem dRR_anyBad_3 : decode cRR_anyBad 3 = .ok (.bipush 24, 2) := by decide +kernel
theorem dRR_anyBad_5 : decode cRR_anyBad 5 = .ok (.if_icmp .ge 19, 3) := by decide +kernel
theorem dRR_anyBad_8 : decode cRR_anyBad 8 = .ok (.aload_n 0, 1) := by decide +kernel
theorem dRR_anyBad_9 : decode cRR_anyBad 9 = .ok (.iload_n 1, 1) := by decide +kernel
theorem dRR_anyBad_10 : decode cRR_anyBad 10 = .ok (.invokevirtual 36, 3) := by decide +kernel
theorem dRR_anyBad_13 : decode cRR_anyBad 13 = .ok (.ifCond .eq 5, 3) := by decide +kernel
theorem dRR_anyBad_16 : decode cRR_anyBad 16 = .ok (.iconst 1, 1) := by decide +kernel
theorem dRR_anyBad_17 : decode cRR_anyBad 17 = .ok (.ireturn, 1) := by decide +kernel
theorem dRR_anyBad_18 : decode cRR_anyBad 18 = .ok (.iinc 1 1, 3) := by decide +kernel
theorem dRR_anyBad_21 : decode cRR_anyBad 21 = .ok (.goto (-19), 3) := by decide +kernel
theorem dRR_anyBad_24 : decode cRR_anyBad 24 = .ok (.iconst 0, 1) := by decide +kernel
theorem dRR_anyBad_25 : decode cRR_anyBad 25 = .ok (.ireturn, 1) := by decide +kernel
theorem dSR_tries_0 : decode cSR_tries 0 = .ok (.aload_n 0, 1) := by decide +kernel
theorem dSR_tries_1 : decode cSR_tries 1 = .ok (.getfield 60, 3) := by decide +kernel
theorem dSR_tries_4 : decode cSR_tries 4 = .ok (.iload_n 1, 1) := by decide +kernel
theorem dSR_tries_5 : decode cSR_tries 5 = .ok (.invokevirtual 161, 3) := by decide +kernel
theorem dSR_tries_8 : decode cSR_tries 8 = .ok (.ireturn, 1) := by decide +kernel
theorem dRR_triesOf_0 : decode cRR_triesOf 0 = .ok (.iload_n 1, 1) := by decide +kernel
theorem dRR_triesOf_1 : decode cRR_triesOf 1 = .ok (.invokestatic 32, 3) := by decide +kernel
theorem dRR_triesOf_4 : decode cRR_triesOf 4 = .ok (.ifCond .eq 12, 3) := by decide +kernel
theorem dRR_triesOf_7 : decode cRR_triesOf 7 = .ok (.aload_n 0, 1) := by decide +kernel
theorem dRR_triesOf_8 : decode cRR_triesOf 8 = .ok (.getfield 19, 3) := by decide +kernel
theorem dRR_triesOf_11 : decode cRR_triesOf 11 = .ok (.iload_n 1, 1) := by decide +kernel
theorem dRR_triesOf_12 : decode cRR_triesOf 12 = .ok (.iaload, 1) := by decide +kernel
theorem dRR_triesOf_13 : decode cRR_triesOf 13 = .ok (.goto 4, 3) := by decide +kernel
theorem dRR_triesOf_16 : decode cRR_triesOf 16 = .ok (.iconst 0, 1) := by decide +kernel
theorem dRR_triesOf_17 : decode cRR_triesOf 17 = .ok (.ireturn, 1) := by decide +kernel
theorem dLW_cell_0 : decode cLW_cell 0 = .ok (.iload_n 1, 1) := by decide +kernel
theorem dLW_cell_1 : decode cLW_cell 1 = .ok (.aload_n 0, 1) := by decide +kernel
theorem dLW_cell_2 : decode cLW_cell 2 = .ok (.arraylength, 1) := by decide +kernel
theorem dLW_cell_3 : decode cLW_cell 3 = .ok (.if_icmp .ge 9, 3) := by decide +kernel
theorem dLW_cell_6 : decode cLW_cell 6 = .ok (.aload_n 0, 1) := by decide +kernel
theorem dLW_cell_7 : decode cLW_cell 7 = .ok (.iload_n 1, 1) := by decide +kernel
theorem dLW_cell_8 : decode cLW_cell 8 = .ok (.iaload, 1) := by decide +kernel
theorem dLW_cell_9 : decode cLW_cell 9 = .ok (.goto 4, 3) := by decide +kernel
theorem dLW_cell_12 : decode cLW_cell 12 = .ok (.iconst 0, 1) := by decide +kernel
theorem dLW_cell_13 : decode cLW_cell 13 = .ok (.ireturn, 1) := by decide +kernel
theorem dMO_init_0 : decode cMO_init 0 = .ok (.aload_n 0, 1) := by decide +kernel
theorem dMO_init_1 : decode cMO_init 1 = .ok (.invokespecial 1, 3) := by decide +kernel
theorem dMO_init_4 : decode cMO_init 4 = .ok (.aload_n 0, 1) := by decide +kernel
theorem dMO_init_5 : decode cMO_init 5 = .ok (.bipush 24, 2) := by decide +kernel
theorem dMO_init_7 : decode cMO_init 7 = .ok (.newarray .int, 2) := by decide +kernel
theorem dMO_init_9 : decode cMO_init 9 = .ok (.putfield 7, 3) := by decide +kernel
theorem dMO_init_12 : decode cMO_init 12 = .ok (.aload_n 0, 1) := by decide +kernel
theorem dMO_init_13 : decode cMO_init 13 = .ok (.bipush 24, 2) := by decide +kernel
theorem dMO_init_15 : decode cMO_init 15 = .ok (.newarray .int, 2) := by decide +kernel
theorem dMO_init_17 : decode cMO_init 17 = .ok (.putfield 13, 3) := by decide +kernel
theorem dMO_init_20 : decode cMO_init 20 = .ok (.aload_n 0, 1) := by decide +kernel
theorem dMO_init_21 : decode cMO_init 21 = .ok (.bipush 24, 2) := by decide +kernel
theorem dMO_init_23 : decode cMO_init 23 = .ok (.newarray .int, 2) := by decide +kernel
theorem dMO_init_25 : decode cMO_init 25 = .ok (.putfield 16, 3) := by decide +kernel
theorem dMO_init_28 : decode cMO_init 28 = .ok (.aload_n 0, 1) := by decide +kernel
theorem dMO_init_29 : decode cMO_init 29 = .ok (.iconst 4, 1) := by decide +kernel
theorem dMO_init_30 : decode cMO_init 30 = .ok (.newarray .int, 2) := by decide +kernel
theorem dMO_init_32 : decode cMO_init 32 = .ok (.putfield 19, 3) := by decide +kernel
theorem dMO_init_35 : decode cMO_init 35 = .ok (.aload_n 0, 1) := by decide +kernel
theorem dMO_init_36 : decode cMO_init 36 = .ok (.bipush 24, 2) := by decide +kernel
theorem dMO_init_38 : decode cMO_init 38 = .ok (.newarray .int, 2) := by decide +kernel
theorem dMO_init_40 : decode cMO_init 40 = .ok (.putfield 22, 3) := by decide +kernel
theorem dMO_init_43 : decode cMO_init 43 = .ok (.aload_n 0, 1) := by decide +kernel
theorem dMO_init_44 : decode cMO_init 44 = .ok (.bipush 24, 2) := by decide +kernel
theorem dMO_init_46 : decode cMO_init 46 = .ok (.newarray .boolean, 2) := by decide +kernel
theorem dMO_init_48 : decode cMO_init 48 = .ok (.putfield 25, 3) := by decide +kernel
theorem dMO_init_51 : decode cMO_init 51 = .ok (.aload_n 0, 1) := by decide +kernel
theorem dMO_init_52 : decode cMO_init 52 = .ok (.bipush 24, 2) := by decide +kernel
theorem dMO_init_54 : decode cMO_init 54 = .ok (.newarray .boolean, 2) := by decide +kernel
theorem dMO_init_56 : decode cMO_init 56 = .ok (.putfield 29, 3) := by decide +kernel
theorem dMO_init_59 : decode cMO_init 59 = .ok (.aload_n 0, 1) := by decide +kernel
theorem dMO_init_60 : decode cMO_init 60 = .ok (.bipush 24, 2) := by decide +kernel
theorem dMO_init_62 : decode cMO_init 62 = .ok (.newarray .int, 2) := by decide +kernel
theorem dMO_init_64 : decode cMO_init 64 = .ok (.putfield 32, 3) := by decide +kernel
theorem dMO_init_67 : decode cMO_init 67 = .ok (.aload_n 0, 1) := by decide +kernel
theorem dMO_init_68 : decode cMO_init 68 = .ok (.bipush 24, 2) := by decide +kernel
theorem dMO_init_70 : decode cMO_init 70 = .ok (.newarray .int, 2) := by decide +kernel
theorem dMO_init_72 : decode cMO_init 72 = .ok (.putfield 35, 3) := by decide +kernel
theorem dMO_init_75 : decode cMO_init 75 = .ok (.aload_n 0, 1) := by decide +kernel
theorem dMO_init_76 : decode cMO_init 76 = .ok (.bipush 24, 2) := by decide +kernel
theorem dMO_init_78 : decode cMO_init 78 = .ok (.newarray .int, 2) := by decide +kernel
theorem dMO_init_80 : decode cMO_init 80 = .ok (.putfield 38, 3) := by decide +kernel
theorem dMO_init_83 : decode cMO_init 83 = .ok (.aload_n 0, 1) := by decide +kernel
theorem dMO_init_84 : decode cMO_init 84 = .ok (.bipush 24, 2) := by decide +kernel
theorem dMO_init_86 : decode cMO_init 86 = .ok (.newarray .int, 2) := by decide +kernel
theorem dMO_init_88 : decode cMO_init 88 = .ok (.putfield 41, 3) := by decide +kernel
theorem dMO_init_91 : decode cMO_init 91 = .ok (.aload_n 0, 1) := by decide +kernel
theorem dMO_init_92 : decode cMO_init 92 = .ok (.bipush 24, 2) := by decide +kernel
theorem dMO_init_94 : decode cMO_init 94 = .ok (.newarray .int, 2) := by decide +kernel
theorem dMO_init_96 : decode cMO_init 96 = .ok (.putfield 44, 3) := by decide +kernel
theorem dMO_init_99 : decode cMO_init 99 = .ok (.aload_n 0, 1) := by decide +kernel
theorem dMO_init_100 : decode cMO_init 100 = .ok (.bipush 24, 2) := by decide +kernel
theorem dMO_init_102 : decode cMO_init 102 = .ok (.newarray .int, 2) := by decide +kernel
theorem dMO_init_104 : decode cMO_init 104 = .ok (.putfield 47, 3) := by decide +kernel
theorem dMO_init_107 : decode cMO_init 107 = .ok (.aload_n 0, 1) := by decide +kernel
theorem dMO_init_108 : decode cMO_init 108 = .ok (.bipush 24, 2) := by decide +kernel
theorem dMO_init_110 : decode cMO_init 110 = .ok (.newarray .boolean, 2) := by decide +kernel
theorem dMO_init_112 : decode cMO_init 112 = .ok (.putfield 50, 3) := by decide +kernel
theorem dMO_init_115 : decode cMO_init 115 = .ok (.aload_n 0, 1) := by decide +kernel
theorem dMO_init_116 : decode cMO_init 116 = .ok (.iload_n 1, 1) := by decide +kernel
theorem dMO_init_117 : decode cMO_init 117 = .ok (.iconst 1, 1) := by decide +kernel
theorem dMO_init_118 : decode cMO_init 118 = .ok (.if_icmp .ge 7, 3) := by decide +kernel
theorem dMO_init_121 : decode cMO_init 121 = .ok (.iconst 1, 1) := by decide +kernel
theorem dMO_init_122 : decode cMO_init 122 = .ok (.goto 13, 3) := by decide +kernel
theorem dMO_init_125 : decode cMO_init 125 = .ok (.iload_n 1, 1) := by decide +kernel
theorem dMO_init_126 : decode cMO_init 126 = .ok (.iconst 4, 1) := by decide +kernel
theorem dMO_init_127 : decode cMO_init 127 = .ok (.if_icmp .le 7, 3) := by decide +kernel
theorem dMO_init_130 : decode cMO_init 130 = .ok (.iconst 4, 1) := by decide +kernel
theorem dMO_init_131 : decode cMO_init 131 = .ok (.goto 4, 3) := by decide +kernel
theorem dMO_init_134 : decode cMO_init 134 = .ok (.iload_n 1, 1) := by decide +kernel
theorem dMO_init_135 : decode cMO_init 135 = .ok (.putfield 53, 3) := by decide +kernel
theorem dMO_init_138 : decode cMO_init 138 = .ok (.iconst 0, 1) := by decide +kernel
theorem dMO_init_139 : decode cMO_init 139 = .ok (.istore_n 2, 1) := by decide +kernel
theorem dMO_init_140 : decode cMO_init 140 = .ok (.iload_n 2, 1) := by decide +kernel
theorem dMO_init_141 : decode cMO_init 141 = .ok (.bipush 24, 2) := by decide +kernel
theorem dMO_init_143 : decode cMO_init 143 = .ok (.if_icmp .ge 16, 3) := by decide +kernel
theorem dMO_init_146 : decode cMO_init 146 = .ok (.aload_n 0, 1) := by decide +kernel
theorem dMO_init_147 : decode cMO_init 147 = .ok (.getfield 16, 3) := by decide +kernel
theorem dMO_init_150 : decode cMO_init 150 = .ok (.iload_n 2, 1) := by decide +kernel
theorem dMO_init_151 : decode cMO_init 151 = .ok (.iconst (-1), 1) := by decide +kernel
theorem dMO_init_152 : decode cMO_init 152 = .ok (.iastore, 1) := by decide +kernel
theorem dMO_init_153 : decode cMO_init 153 = .ok (.iinc 2 1, 3) := by decide +kernel
theorem dMO_init_156 : decode cMO_init 156 = .ok (.goto (-16), 3) := by decide +kernel
theorem dMO_init_159 : decode cMO_init 159 = .ok (.return_, 1) := by decide +kernel
theorem dMO_test_0 : decode cMO_test 0 = .ok (.aload_n 0, 1) := by decide +kernel
theorem dMO_test_1 : decode cMO_test 1 = .ok (.iconst 0, 1) := by decide +kernel
theorem dMO_test_2 : decode cMO_test 2 = .ok (.putfield 57, 3) := by decide +kernel
theorem dMO_test_5 : decode cMO_test 5 = .ok (.aload_n 0, 1) := by decide +kernel
theorem dMO_test_6 : decode cMO_test 6 = .ok (.getfield 60, 3) := by decide +kernel
theorem dMO_test_9 : decode cMO_test 9 = .ok (.bipush 24, 2) := by decide +kernel
theorem dMO_test_11 : decode cMO_test 11 = .ok (.if_icmp .eq 10, 3) := by decide +kernel
theorem dMO_test_14 : decode cMO_test 14 = .ok (.iload_n 1, 1) := by decide +kernel
theorem dMO_test_15 : decode cMO_test 15 = .ok (.invokestatic 64, 3) := by decide +kernel
theorem dMO_test_18 : decode cMO_test 18 = .ok (.ifCond .ne 5, 3) := by decide +kernel
theorem dMO_test_21 : decode cMO_test 21 = .ok (.iconst (-1), 1) := by decide +kernel
theorem dMO_test_22 : decode cMO_test 22 = .ok (.ireturn, 1) := by decide +kernel
theorem dMO_test_23 : decode cMO_test 23 = .ok (.aload_n 0, 1) := by decide +kernel
theorem dMO_test_24 : decode cMO_test 24 = .ok (.getfield 7, 3) := by decide +kernel
theorem dMO_test_27 : decode cMO_test 27 = .ok (.aload_n 0, 1) := by decide +kernel
theorem dMO_test_28 : decode cMO_test 28 = .ok (.getfield 60, 3) := by decide +kernel
theorem dMO_test_31 : decode cMO_test 31 = .ok (.iload_n 1, 1) := by decide +kernel
theorem dMO_test_32 : decode cMO_test 32 = .ok (.iastore, 1) := by decide +kernel
theorem dMO_test_33 : decode cMO_test 33 = .ok (.aload_n 0, 1) := by decide +kernel
theorem dMO_test_34 : decode cMO_test 34 = .ok (.getfield 13, 3) := by decide +kernel
theorem dMO_test_37 : decode cMO_test 37 = .ok (.aload_n 0, 1) := by decide +kernel
theorem dMO_test_38 : decode cMO_test 38 = .ok (.getfield 60, 3) := by decide +kernel
theorem dMO_test_41 : decode cMO_test 41 = .ok (.aload_n 0, 1) := by decide +kernel
theorem dMO_test_42 : decode cMO_test 42 = .ok (.getfield 60, 3) := by decide +kernel
theorem dMO_test_45 : decode cMO_test 45 = .ok (.iastore, 1) := by decide +kernel
theorem dMO_test_46 : decode cMO_test 46 = .ok (.aload_n 0, 1) := by decide +kernel
theorem dMO_test_47 : decode cMO_test 47 = .ok (.dup, 1) := by decide +kernel
theorem dMO_test_48 : decode cMO_test 48 = .ok (.getfield 60, 3) := by decide +kernel
theorem dMO_test_51 : decode cMO_test 51 = .ok (.iconst 1, 1) := by decide +kernel
theorem dMO_test_52 : decode cMO_test 52 = .ok (.iadd, 1) := by decide +kernel
theorem dMO_test_53 : decode cMO_test 53 = .ok (.putfield 60, 3) := by decide +kernel
theorem dMO_test_56 : decode cMO_test 56 = .ok (.aload_n 0, 1) := by decide +kernel
theorem dMO_test_57 : decode cMO_test 57 = .ok (.getfield 60, 3) := by decide +kernel
theorem dMO_test_60 : decode cMO_test 60 = .ok (.iconst 1, 1) := by decide +kernel
theorem dMO_test_61 : decode cMO_test 61 = .ok (.isub, 1) := by decide +kernel
theorem dMO_test_62 : decode cMO_test 62 = .ok (.ireturn, 1) := by decide +kernel
theorem dMO_isTime_0 : decode cMO_isTime 0 = .ok (.iload_n 0, 1) := by decide +kernel
theorem dMO_isTime_1 : decode cMO_isTime 1 = .ok (.ifCond .lt 13, 3) := by decide +kernel
theorem dMO_isTime_4 : decode cMO_isTime 4 = .ok (.iload_n 0, 1) := by decide +kernel
theorem dMO_isTime_5 : decode cMO_isTime 5 = .ok (.ldc 63, 2) := by decide +kernel
theorem dMO_isTime_7 : decode cMO_isTime 7 = .ok (.if_icmp .gt 7, 3) := by decide +kernel
theorem dMO_isTime_10 : decode cMO_isTime 10 = .ok (.iconst 1, 1) := by decide +kernel
theorem dMO_isTime_11 : decode cMO_isTime 11 = .ok (.goto 4, 3) := by decide +kernel
theorem dMO_isTime_14 : decode cMO_isTime 14 = .ok (.iconst 0, 1) := by decide +kernel
theorem dMO_isTime_15 : decode cMO_isTime 15 = .ok (.ireturn, 1) := by decide +kernel
theorem dMO_time_0 : decode cMO_time 0 = .ok (.aload_n 0, 1) := by decide +kernel
theorem dMO_time_1 : decode cMO_time 1 = .ok (.iconst 0, 1) := by decide +kernel
theorem dMO_time_2 : decode cMO_time 2 = .ok (.putfield 57, 3) := by decide +kernel
theorem dMO_time_5 : decode cMO_time 5 = .ok (.aload_n 0, 1) := by decide +kernel
theorem dMO_time_6 : decode cMO_time 6 = .ok (.iload_n 1, 1) := by decide +kernel
theorem dMO_time_7 : decode cMO_time 7 = .ok (.invokevirtual 68, 3) := by decide +kernel
theorem dMO_time_10 : decode cMO_time 10 = .ok (.ifCond .eq 10, 3) := by decide +kernel
theorem dMO_time_13 : decode cMO_time 13 = .ok (.iload_n 2, 1) := by decide +kernel
theorem dMO_time_14 : decode cMO_time 14 = .ok (.invokestatic 64, 3) := by decide +kernel
theorem dMO_time_17 : decode cMO_time 17 = .ok (.ifCond .ne 5, 3) := by decide +kernel
theorem dMO_time_20 : decode cMO_time 20 = .ok (.iconst 0, 1) := by decide +kernel
theorem dMO_time_21 : decode cMO_time 21 = .ok (.ireturn, 1) := by decide +kernel
theorem dMO_time_22 : decode cMO_time 22 = .ok (.aload_n 0, 1) := by decide +kernel
theorem dMO_time_23 : decode cMO_time 23 = .ok (.getfield 7, 3) := by decide +kernel
theorem dMO_time_26 : decode cMO_time 26 = .ok (.iload_n 1, 1) := by decide +kernel
theorem dMO_time_27 : decode cMO_time 27 = .ok (.iload_n 2, 1) := by decide +kernel
theorem dMO_time_28 : decode cMO_time 28 = .ok (.iastore, 1) := by decide +kernel
theorem dMO_time_29 : decode cMO_time 29 = .ok (.iconst 1, 1) := by decide +kernel
theorem dMO_time_30 : decode cMO_time 30 = .ok (.ireturn, 1) := by decide +kernel
theorem dMO_isTest_0 : decode cMO_isTest 0 = .ok (.iload_n 1, 1) := by decide +kernel
theorem dMO_isTest_1 : decode cMO_isTest 1 = .ok (.ifCond .lt 15, 3) := by decide +kernel
theorem dMO_isTest_4 : decode cMO_isTest 4 = .ok (.iload_n 1, 1) := by decide +kernel
theorem dMO_isTest_5 : decode cMO_isTest 5 = .ok (.aload_n 0, 1) := by decide +kernel
theorem dMO_isTest_6 : decode cMO_isTest 6 = .ok (.getfield 60, 3) := by decide +kernel
theorem dMO_isTest_9 : decode cMO_isTest 9 = .ok (.if_icmp .ge 7, 3) := by decide +kernel
theorem dMO_isTest_12 : decode cMO_isTest 12 = .ok (.iconst 1, 1) := by decide +kernel
theorem dMO_isTest_13 : decode cMO_isTest 13 = .ok (.goto 4, 3) := by decide +kernel
theorem dMO_isTest_16 : decode cMO_isTest 16 = .ok (.iconst 0, 1) := by decide +kernel
theorem dMO_isTest_17 : decode cMO_isTest 17 = .ok (.ireturn, 1) := by decide +kernel
theorem dMO_join_0 : decode cMO_join 0 = .ok (.aload_n 0, 1) := by decide +kernel
theorem dMO_join_1 : decode cMO_join 1 = .ok (.iconst 0, 1) := by decide +kernel
theorem dMO_join_2 : decode cMO_join 2 = .ok (.putfield 57, 3) := by decide +kernel
theorem dMO_join_5 : decode cMO_join 5 = .ok (.aload_n 0, 1) := by decide +kernel
theorem dMO_join_6 : decode cMO_join 6 = .ok (.iload_n 1, 1) := by decide +kernel
theorem dMO_join_7 : decode cMO_join 7 = .ok (.invokevirtual 68, 3) := by decide +kernel
theorem dMO_join_10 : decode cMO_join 10 = .ok (.ifCond .eq 26, 3) := by decide +kernel
theorem dMO_join_13 : decode cMO_join 13 = .ok (.aload_n 0, 1) := by decide +kernel
theorem dMO_join_14 : decode cMO_join 14 = .ok (.iload_n 2, 1) := by decide +kernel
theorem dMO_join_15 : decode cMO_join 15 = .ok (.invokevirtual 68, 3) := by decide +kernel
theorem dMO_join_18 : decode cMO_join 18 = .ok (.ifCond .eq 18, 3) := by decide +kernel
theorem dMO_join_21 : decode cMO_join 21 = .ok (.aload_n 0, 1) := by decide +kernel
theorem dMO_join_22 : decode cMO_join 22 = .ok (.getfield 13, 3) := by decide +kernel
theorem dMO_join_25 : decode cMO_join 25 = .ok (.iload_n 1, 1) := by decide +kernel
theorem dMO_join_26 : decode cMO_join 26 = .ok (.iaload, 1) := by decide +kernel
theorem dMO_join_27 : decode cMO_join 27 = .ok (.aload_n 0, 1) := by decide +kernel
theorem dMO_join_28 : decode cMO_join 28 = .ok (.getfield 13, 3) := by decide +kernel
theorem dMO_join_31 : decode cMO_join 31 = .ok (.iload_n 2, 1) := by decide +kernel
theorem dMO_join_32 : decode cMO_join 32 = .ok (.iaload, 1) := by decide +kernel
theorem dMO_join_33 : decode cMO_join 33 = .ok (.if_icmp .ne 5, 3) := by decide +kernel
theorem dMO_join_36 : decode cMO_join 36 = .ok (.iconst 0, 1) := by decide +kernel
theorem dMO_join_37 : decode cMO_join 37 = .ok (.ireturn, 1) := by decide +kernel
theorem dMO_join_38 : decode cMO_join 38 = .ok (.aload_n 0, 1) := by decide +kernel
theorem dMO_join_39 : decode cMO_join 39 = .ok (.getfield 13, 3) := by decide +kernel
theorem dMO_join_42 : decode cMO_join 42 = .ok (.iload_n 1, 1) := by decide +kernel
theorem dMO_join_43 : decode cMO_join 43 = .ok (.iaload, 1) := by decide +kernel
theorem dMO_join_44 : decode cMO_join 44 = .ok (.aload_n 0, 1) := by decide +kernel
theorem dMO_join_45 : decode cMO_join 45 = .ok (.getfield 13, 3) := by decide +kernel
theorem dMO_join_48 : decode cMO_join 48 = .ok (.iload_n 2, 1) := by decide +kernel
theorem dMO_join_49 : decode cMO_join 49 = .ok (.iaload, 1) := by decide +kernel
theorem dMO_join_50 : decode cMO_join 50 = .ok (.if_icmp .ge 12, 3) := by decide +kernel
theorem dMO_join_53 : decode cMO_join 53 = .ok (.aload_n 0, 1) := by decide +kernel
theorem dMO_join_54 : decode cMO_join 54 = .ok (.getfield 13, 3) := by decide +kernel
theorem dMO_join_57 : decode cMO_join 57 = .ok (.iload_n 1, 1) := by decide +kernel
theorem dMO_join_58 : decode cMO_join 58 = .ok (.iaload, 1) := by decide +kernel
theorem dMO_join_59 : decode cMO_join 59 = .ok (.goto 9, 3) := by decide +kernel
theorem dMO_join_62 : decode cMO_join 62 = .ok (.aload_n 0, 1) := by decide +kernel
theorem dMO_join_63 : decode cMO_join 63 = .ok (.getfield 13, 3) := by decide +kernel
theorem dMO_join_66 : decode cMO_join 66 = .ok (.iload_n 2, 1) := by decide +kernel
theorem dMO_join_67 : decode cMO_join 67 = .ok (.iaload, 1) := by decide +kernel
theorem dMO_join_68 : decode cMO_join 68 = .ok (.istore_n 3, 1) := by decide +kernel
theorem dMO_join_69 : decode cMO_join 69 = .ok (.aload_n 0, 1) := by decide +kernel
theorem dMO_join_70 : decode cMO_join 70 = .ok (.getfield 13, 3) := by decide +kernel
theorem dMO_join_73 : decode cMO_join 73 = .ok (.iload_n 1, 1) := by decide +kernel
theorem dMO_join_74 : decode cMO_join 74 = .ok (.iaload, 1) := by decide +kernel
theorem dMO_join_75 : decode cMO_join 75 = .ok (.aload_n 0, 1) := by decide +kernel
theorem dMO_join_76 : decode cMO_join 76 = .ok (.getfield 13, 3) := by decide +kernel
theorem dMO_join_79 : decode cMO_join 79 = .ok (.iload_n 2, 1) := by decide +kernel
theorem dMO_join_80 : decode cMO_join 80 = .ok (.iaload, 1) := by decide +kernel
theorem dMO_join_81 : decode cMO_join 81 = .ok (.iadd, 1) := by decide +kernel
theorem dMO_join_82 : decode cMO_join 82 = .ok (.iload_n 3, 1) := by decide +kernel
theorem dMO_join_83 : decode cMO_join 83 = .ok (.isub, 1) := by decide +kernel
theorem dMO_join_84 : decode cMO_join 84 = .ok (.istore 4, 2) := by decide +kernel
theorem dMO_join_86 : decode cMO_join 86 = .ok (.iconst 0, 1) := by decide +kernel
theorem dMO_join_87 : decode cMO_join 87 = .ok (.istore 5, 2) := by decide +kernel
theorem dMO_join_89 : decode cMO_join 89 = .ok (.iload 5, 2) := by decide +kernel
theorem dMO_join_91 : decode cMO_join 91 = .ok (.aload_n 0, 1) := by decide +kernel
theorem dMO_join_92 : decode cMO_join 92 = .ok (.getfield 60, 3) := by decide +kernel
theorem dMO_join_95 : decode cMO_join 95 = .ok (.if_icmp .ge 39, 3) := by decide +kernel
theorem dMO_join_98 : decode cMO_join 98 = .ok (.aload_n 0, 1) := by decide +kernel
theorem dMO_join_99 : decode cMO_join 99 = .ok (.getfield 13, 3) := by decide +kernel
theorem dMO_join_102 : decode cMO_join 102 = .ok (.iload 5, 2) := by decide +kernel
theorem dMO_join_104 : decode cMO_join 104 = .ok (.aload_n 0, 1) := by decide +kernel
theorem dMO_join_105 : decode cMO_join 105 = .ok (.getfield 13, 3) := by decide +kernel
theorem dMO_join_108 : decode cMO_join 108 = .ok (.iload 5, 2) := by decide +kernel
theorem dMO_join_110 : decode cMO_join 110 = .ok (.iaload, 1) := by decide +kernel
theorem dMO_join_111 : decode cMO_join 111 = .ok (.iload 4, 2) := by decide +kernel
theorem dMO_join_113 : decode cMO_join 113 = .ok (.if_icmp .ne 7, 3) := by decide +kernel
theorem dMO_join_116 : decode cMO_join 116 = .ok (.iload_n 3, 1) := by decide +kernel
theorem dMO_join_117 : decode cMO_join 117 = .ok (.goto 10, 3) := by decide +kernel
theorem dMO_join_120 : decode cMO_join 120 = .ok (.aload_n 0, 1) := by decide +kernel
theorem dMO_join_121 : decode cMO_join 121 = .ok (.getfield 13, 3) := by decide +kernel
theorem dMO_join_124 : decode cMO_join 124 = .ok (.iload 5, 2) := by decide +kernel
theorem dMO_join_126 : decode cMO_join 126 = .ok (.iaload, 1) := by decide +kernel
theorem dMO_join_127 : decode cMO_join 127 = .ok (.iastore, 1) := by decide +kernel
theorem dMO_join_128 : decode cMO_join 128 = .ok (.iinc 5 1, 3) := by decide +kernel
theorem dMO_join_131 : decode cMO_join 131 = .ok (.goto (-42), 3) := by decide +kernel
theorem dMO_join_134 : decode cMO_join 134 = .ok (.iconst 1, 1) := by decide +kernel
theorem dMO_join_135 : decode cMO_join 135 = .ok (.ireturn, 1) := by decide +kernel
theorem dMO_shards_0 : decode cMO_shards 0 = .ok (.aload_n 0, 1) := by decide +kernel
theorem dMO_shards_1 : decode cMO_shards 1 = .ok (.iconst 0, 1) := by decide +kernel
theorem dMO_shards_2 : decode cMO_shards 2 = .ok (.putfield 57, 3) := by decide +kernel
theorem dMO_shards_5 : decode cMO_shards 5 = .ok (.iload_n 1, 1) := by decide +kernel
theorem dMO_shards_6 : decode cMO_shards 6 = .ok (.iconst 1, 1) := by decide +kernel
theorem dMO_shards_7 : decode cMO_shards 7 = .ok (.if_icmp .lt 8, 3) := by decide +kernel
theorem dMO_shards_10 : decode cMO_shards 10 = .ok (.iload_n 1, 1) := by decide +kernel
theorem dMO_shards_11 : decode cMO_shards 11 = .ok (.iconst 4, 1) := by decide +kernel
theorem dMO_shards_12 : decode cMO_shards 12 = .ok (.if_icmp .le 5, 3) := by decide +kernel
theorem dMO_shards_15 : decode cMO_shards 15 = .ok (.iconst 0, 1) := by decide +kernel
theorem dMO_shards_16 : decode cMO_shards 16 = .ok (.ireturn, 1) := by decide +kernel
